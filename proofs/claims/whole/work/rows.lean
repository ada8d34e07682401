section
-- ===== PART A: goes FIRST, ahead of the names: the tables' words, and 'selects' of the private methods out of them =====
/-- a private method of a class that the tables say can be made, by its rows of tables_1 -/
def lw_okq (q : MethodName × Nat) : Prop := (q.1.cls ≠ "java/lang/invoke/MethodHandle" ∧ q.1.cls ≠ "java/lang/invoke/VarHandle") ∧ Cond.instantiable q.1.cls q.2 ∈ tables_1 ∧ Cond.privateMethod q.1 ∈ tables_1 ∧ Cond.instanceMethod q.1 ∈ tables_1
theorem lw_p0 : lw_okq (⟨"FieldScribe$Page", "join", "(I)V"⟩, 5) := ⟨⟨by decide +kernel, by decide +kernel⟩, List.mem_of_getElem? (i := 64) (by decide +kernel), List.mem_of_getElem? (i := 223) (by decide +kernel), List.mem_of_getElem? (i := 224) (by decide +kernel)⟩
theorem lw_p1 : lw_okq (⟨"FieldScribe$Text", "isNumeric", "()Z"⟩, 2) := ⟨⟨by decide +kernel, by decide +kernel⟩, List.mem_of_getElem? (i := 70) (by decide +kernel), List.mem_of_getElem? (i := 277) (by decide +kernel), List.mem_of_getElem? (i := 278) (by decide +kernel)⟩
theorem lw_p2 : lw_okq (⟨"FieldScribe$Text", "numberLength", "()I"⟩, 2) := ⟨⟨by decide +kernel, by decide +kernel⟩, List.mem_of_getElem? (i := 70) (by decide +kernel), List.mem_of_getElem? (i := 281) (by decide +kernel), List.mem_of_getElem? (i := 282) (by decide +kernel)⟩
theorem lw_p3 : lw_okq (⟨"FieldScribe$Text", "firstDifference", "(LFieldScribe$Text;)I"⟩, 2) := ⟨⟨by decide +kernel, by decide +kernel⟩, List.mem_of_getElem? (i := 70) (by decide +kernel), List.mem_of_getElem? (i := 294) (by decide +kernel), List.mem_of_getElem? (i := 295) (by decide +kernel)⟩
theorem lw_p4 : lw_okq (⟨"FieldScribe$Rule", "isInRange", "(LFieldScribe$Text;)Z"⟩, 5) := ⟨⟨by decide +kernel, by decide +kernel⟩, List.mem_of_getElem? (i := 303) (by decide +kernel), List.mem_of_getElem? (i := 301) (by decide +kernel), List.mem_of_getElem? (i := 302) (by decide +kernel)⟩
theorem lw_p5 : lw_okq (⟨"FieldScribe", "performAll", "(Ljava/util/ArrayList;)Z"⟩, 9) := ⟨⟨by decide +kernel, by decide +kernel⟩, List.mem_of_getElem? (i := 30) (by decide +kernel), List.mem_of_getElem? (i := 306) (by decide +kernel), List.mem_of_getElem? (i := 307) (by decide +kernel)⟩
theorem lw_p6 : lw_okq (⟨"FieldScribe", "perform", "(LFieldScribe$Action;)Z"⟩, 9) := ⟨⟨by decide +kernel, by decide +kernel⟩, List.mem_of_getElem? (i := 30) (by decide +kernel), List.mem_of_getElem? (i := 311) (by decide +kernel), List.mem_of_getElem? (i := 312) (by decide +kernel)⟩
theorem lw_p7 : lw_okq (⟨"FieldScribe$Table", "find", "(LFieldScribe$Text;)I"⟩, 2) := ⟨⟨by decide +kernel, by decide +kernel⟩, List.mem_of_getElem? (i := 106) (by decide +kernel), List.mem_of_getElem? (i := 320) (by decide +kernel), List.mem_of_getElem? (i := 321) (by decide +kernel)⟩
theorem lw_p8 : lw_okq (⟨"java/lang/Throwable", "fillInStackTrace", "(I)Ljava/lang/Throwable;"⟩, 6) := ⟨⟨by decide +kernel, by decide +kernel⟩, List.mem_of_getElem? (i := 462) (by decide +kernel), List.mem_of_getElem? (i := 460) (by decide +kernel), List.mem_of_getElem? (i := 461) (by decide +kernel)⟩
theorem lw_p9 : lw_okq (⟨"java/util/ArrayList", "add", "(Ljava/lang/Object;[Ljava/lang/Object;I)V"⟩, 3) := ⟨⟨by decide +kernel, by decide +kernel⟩, List.mem_of_getElem? (i := 38) (by decide +kernel), List.mem_of_getElem? (i := 535) (by decide +kernel), List.mem_of_getElem? (i := 536) (by decide +kernel)⟩
theorem lw_p10 : lw_okq (⟨"java/util/ArrayList", "grow", "()[Ljava/lang/Object;"⟩, 3) := ⟨⟨by decide +kernel, by decide +kernel⟩, List.mem_of_getElem? (i := 38) (by decide +kernel), List.mem_of_getElem? (i := 539) (by decide +kernel), List.mem_of_getElem? (i := 540) (by decide +kernel)⟩
theorem lw_p11 : lw_okq (⟨"java/util/ArrayList", "grow", "(I)[Ljava/lang/Object;"⟩, 3) := ⟨⟨by decide +kernel, by decide +kernel⟩, List.mem_of_getElem? (i := 38) (by decide +kernel), List.mem_of_getElem? (i := 543) (by decide +kernel), List.mem_of_getElem? (i := 544) (by decide +kernel)⟩
theorem lw_p12 : lw_okq (⟨"FieldScribeModel", "fails", "(I)Z"⟩, 34) := ⟨⟨by decide +kernel, by decide +kernel⟩, List.mem_of_getElem? (i := 765) (by decide +kernel), List.mem_of_getElem? (i := 886) (by decide +kernel), List.mem_of_getElem? (i := 887) (by decide +kernel)⟩
theorem lw_p13 : lw_okq (⟨"FieldScribeModel", "cuts", "()V"⟩, 34) := ⟨⟨by decide +kernel, by decide +kernel⟩, List.mem_of_getElem? (i := 765) (by decide +kernel), List.mem_of_getElem? (i := 911) (by decide +kernel), List.mem_of_getElem? (i := 912) (by decide +kernel)⟩
theorem lw_p14 : lw_okq (⟨"FieldScribeModel", "isTrue", "(I)Z"⟩, 34) := ⟨⟨by decide +kernel, by decide +kernel⟩, List.mem_of_getElem? (i := 765) (by decide +kernel), List.mem_of_getElem? (i := 923) (by decide +kernel), List.mem_of_getElem? (i := 924) (by decide +kernel)⟩
theorem lw_p15 : lw_okq (⟨"FieldScribeModel", "isSame", "(II)Z"⟩, 34) := ⟨⟨by decide +kernel, by decide +kernel⟩, List.mem_of_getElem? (i := 765) (by decide +kernel), List.mem_of_getElem? (i := 927) (by decide +kernel), List.mem_of_getElem? (i := 928) (by decide +kernel)⟩
def lw_privs_1 : List (MethodName × Nat) := [(⟨"FieldScribe$Page", "join", "(I)V"⟩, 5), (⟨"FieldScribe$Text", "isNumeric", "()Z"⟩, 2), (⟨"FieldScribe$Text", "numberLength", "()I"⟩, 2), (⟨"FieldScribe$Text", "firstDifference", "(LFieldScribe$Text;)I"⟩, 2), (⟨"FieldScribe$Rule", "isInRange", "(LFieldScribe$Text;)Z"⟩, 5), (⟨"FieldScribe", "performAll", "(Ljava/util/ArrayList;)Z"⟩, 9), (⟨"FieldScribe", "perform", "(LFieldScribe$Action;)Z"⟩, 9), (⟨"FieldScribe$Table", "find", "(LFieldScribe$Text;)I"⟩, 2), (⟨"java/lang/Throwable", "fillInStackTrace", "(I)Ljava/lang/Throwable;"⟩, 6), (⟨"java/util/ArrayList", "add", "(Ljava/lang/Object;[Ljava/lang/Object;I)V"⟩, 3), (⟨"java/util/ArrayList", "grow", "()[Ljava/lang/Object;"⟩, 3), (⟨"java/util/ArrayList", "grow", "(I)[Ljava/lang/Object;"⟩, 3), (⟨"FieldScribeModel", "fails", "(I)Z"⟩, 34), (⟨"FieldScribeModel", "cuts", "()V"⟩, 34), (⟨"FieldScribeModel", "isTrue", "(I)Z"⟩, 34), (⟨"FieldScribeModel", "isSame", "(II)Z"⟩, 34)]
theorem lw_r1 : ∀ q ∈ lw_privs_1, lw_okq q := List.forall_mem_cons.mpr ⟨lw_p0, List.forall_mem_cons.mpr ⟨lw_p1, List.forall_mem_cons.mpr ⟨lw_p2, List.forall_mem_cons.mpr ⟨lw_p3, List.forall_mem_cons.mpr ⟨lw_p4, List.forall_mem_cons.mpr ⟨lw_p5, List.forall_mem_cons.mpr ⟨lw_p6, List.forall_mem_cons.mpr ⟨lw_p7, List.forall_mem_cons.mpr ⟨lw_p8, List.forall_mem_cons.mpr ⟨lw_p9, List.forall_mem_cons.mpr ⟨lw_p10, List.forall_mem_cons.mpr ⟨lw_p11, List.forall_mem_cons.mpr ⟨lw_p12, List.forall_mem_cons.mpr ⟨lw_p13, List.forall_mem_cons.mpr ⟨lw_p14, List.forall_mem_cons.mpr ⟨lw_p15, fun _ h => absurd h List.not_mem_nil⟩⟩⟩⟩⟩⟩⟩⟩⟩⟩⟩⟩⟩⟩⟩⟩
theorem lw_p16 : lw_okq (⟨"FieldScribeModel", "isNumeric", "(I)Z"⟩, 34) := ⟨⟨by decide +kernel, by decide +kernel⟩, List.mem_of_getElem? (i := 765) (by decide +kernel), List.mem_of_getElem? (i := 931) (by decide +kernel), List.mem_of_getElem? (i := 932) (by decide +kernel)⟩
theorem lw_p17 : lw_okq (⟨"FieldScribeModel", "numeric", "(I)I"⟩, 34) := ⟨⟨by decide +kernel, by decide +kernel⟩, List.mem_of_getElem? (i := 765) (by decide +kernel), List.mem_of_getElem? (i := 935) (by decide +kernel), List.mem_of_getElem? (i := 936) (by decide +kernel)⟩
theorem lw_p18 : lw_okq (⟨"FieldScribeModel", "from", "(I)I"⟩, 34) := ⟨⟨by decide +kernel, by decide +kernel⟩, List.mem_of_getElem? (i := 765) (by decide +kernel), List.mem_of_getElem? (i := 939) (by decide +kernel), List.mem_of_getElem? (i := 940) (by decide +kernel)⟩
theorem lw_p19 : lw_okq (⟨"FieldScribeModel", "to", "(I)I"⟩, 34) := ⟨⟨by decide +kernel, by decide +kernel⟩, List.mem_of_getElem? (i := 765) (by decide +kernel), List.mem_of_getElem? (i := 943) (by decide +kernel), List.mem_of_getElem? (i := 944) (by decide +kernel)⟩
theorem lw_p20 : lw_okq (⟨"FieldScribeModel", "numberOf", "(I)I"⟩, 34) := ⟨⟨by decide +kernel, by decide +kernel⟩, List.mem_of_getElem? (i := 765) (by decide +kernel), List.mem_of_getElem? (i := 950) (by decide +kernel), List.mem_of_getElem? (i := 951) (by decide +kernel)⟩
theorem lw_p21 : lw_okq (⟨"FieldScribeModel", "isLess", "(II)Z"⟩, 34) := ⟨⟨by decide +kernel, by decide +kernel⟩, List.mem_of_getElem? (i := 765) (by decide +kernel), List.mem_of_getElem? (i := 954) (by decide +kernel), List.mem_of_getElem? (i := 955) (by decide +kernel)⟩
theorem lw_p22 : lw_okq (⟨"FieldScribeModel", "acts", "(I)Z"⟩, 34) := ⟨⟨by decide +kernel, by decide +kernel⟩, List.mem_of_getElem? (i := 765) (by decide +kernel), List.mem_of_getElem? (i := 961) (by decide +kernel), List.mem_of_getElem? (i := 962) (by decide +kernel)⟩
theorem lw_p23 : lw_okq (⟨"FieldScribeModel", "does", "(I)V"⟩, 34) := ⟨⟨by decide +kernel, by decide +kernel⟩, List.mem_of_getElem? (i := 765) (by decide +kernel), List.mem_of_getElem? (i := 965) (by decide +kernel), List.mem_of_getElem? (i := 966) (by decide +kernel)⟩
theorem lw_p24 : lw_okq (⟨"FieldScribeModel", "finds", "(I)I"⟩, 34) := ⟨⟨by decide +kernel, by decide +kernel⟩, List.mem_of_getElem? (i := 765) (by decide +kernel), List.mem_of_getElem? (i := 969) (by decide +kernel), List.mem_of_getElem? (i := 970) (by decide +kernel)⟩
theorem lw_p25 : lw_okq (⟨"FieldScribeModel", "addsOperand", "(I)V"⟩, 34) := ⟨⟨by decide +kernel, by decide +kernel⟩, List.mem_of_getElem? (i := 765) (by decide +kernel), List.mem_of_getElem? (i := 973) (by decide +kernel), List.mem_of_getElem? (i := 974) (by decide +kernel)⟩
theorem lw_p26 : lw_okq (⟨"FieldScribeModel", "adds", "(I)V"⟩, 34) := ⟨⟨by decide +kernel, by decide +kernel⟩, List.mem_of_getElem? (i := 765) (by decide +kernel), List.mem_of_getElem? (i := 980) (by decide +kernel), List.mem_of_getElem? (i := 981) (by decide +kernel)⟩
theorem lw_p27 : lw_okq (⟨"FieldScribeModel", "numberOfOperand", "(I)I"⟩, 34) := ⟨⟨by decide +kernel, by decide +kernel⟩, List.mem_of_getElem? (i := 765) (by decide +kernel), List.mem_of_getElem? (i := 984) (by decide +kernel), List.mem_of_getElem? (i := 985) (by decide +kernel)⟩
theorem lw_p28 : lw_okq (⟨"FieldScribeModel", "writes", "(I)V"⟩, 34) := ⟨⟨by decide +kernel, by decide +kernel⟩, List.mem_of_getElem? (i := 765) (by decide +kernel), List.mem_of_getElem? (i := 988) (by decide +kernel), List.mem_of_getElem? (i := 989) (by decide +kernel)⟩
theorem lw_p29 : lw_okq (⟨"FieldScribeModel", "addsValue", "()V"⟩, 34) := ⟨⟨by decide +kernel, by decide +kernel⟩, List.mem_of_getElem? (i := 765) (by decide +kernel), List.mem_of_getElem? (i := 993) (by decide +kernel), List.mem_of_getElem? (i := 994) (by decide +kernel)⟩
theorem lw_p30 : lw_okq (⟨"FieldScribeModel", "numberOfValue", "()I"⟩, 34) := ⟨⟨by decide +kernel, by decide +kernel⟩, List.mem_of_getElem? (i := 765) (by decide +kernel), List.mem_of_getElem? (i := 997) (by decide +kernel), List.mem_of_getElem? (i := 998) (by decide +kernel)⟩
theorem lw_p31 : lw_okq (⟨"FieldScribeModel", "fits", "(J)I"⟩, 34) := ⟨⟨by decide +kernel, by decide +kernel⟩, List.mem_of_getElem? (i := 765) (by decide +kernel), List.mem_of_getElem? (i := 1001) (by decide +kernel), List.mem_of_getElem? (i := 1002) (by decide +kernel)⟩
def lw_privs_2 : List (MethodName × Nat) := [(⟨"FieldScribeModel", "isNumeric", "(I)Z"⟩, 34), (⟨"FieldScribeModel", "numeric", "(I)I"⟩, 34), (⟨"FieldScribeModel", "from", "(I)I"⟩, 34), (⟨"FieldScribeModel", "to", "(I)I"⟩, 34), (⟨"FieldScribeModel", "numberOf", "(I)I"⟩, 34), (⟨"FieldScribeModel", "isLess", "(II)Z"⟩, 34), (⟨"FieldScribeModel", "acts", "(I)Z"⟩, 34), (⟨"FieldScribeModel", "does", "(I)V"⟩, 34), (⟨"FieldScribeModel", "finds", "(I)I"⟩, 34), (⟨"FieldScribeModel", "addsOperand", "(I)V"⟩, 34), (⟨"FieldScribeModel", "adds", "(I)V"⟩, 34), (⟨"FieldScribeModel", "numberOfOperand", "(I)I"⟩, 34), (⟨"FieldScribeModel", "writes", "(I)V"⟩, 34), (⟨"FieldScribeModel", "addsValue", "()V"⟩, 34), (⟨"FieldScribeModel", "numberOfValue", "()I"⟩, 34), (⟨"FieldScribeModel", "fits", "(J)I"⟩, 34)]
theorem lw_r2 : ∀ q ∈ lw_privs_2, lw_okq q := List.forall_mem_cons.mpr ⟨lw_p16, List.forall_mem_cons.mpr ⟨lw_p17, List.forall_mem_cons.mpr ⟨lw_p18, List.forall_mem_cons.mpr ⟨lw_p19, List.forall_mem_cons.mpr ⟨lw_p20, List.forall_mem_cons.mpr ⟨lw_p21, List.forall_mem_cons.mpr ⟨lw_p22, List.forall_mem_cons.mpr ⟨lw_p23, List.forall_mem_cons.mpr ⟨lw_p24, List.forall_mem_cons.mpr ⟨lw_p25, List.forall_mem_cons.mpr ⟨lw_p26, List.forall_mem_cons.mpr ⟨lw_p27, List.forall_mem_cons.mpr ⟨lw_p28, List.forall_mem_cons.mpr ⟨lw_p29, List.forall_mem_cons.mpr ⟨lw_p30, List.forall_mem_cons.mpr ⟨lw_p31, fun _ h => absurd h List.not_mem_nil⟩⟩⟩⟩⟩⟩⟩⟩⟩⟩⟩⟩⟩⟩⟩⟩
theorem lw_p32 : lw_okq (⟨"FieldScribeModel", "sets", "(I)V"⟩, 34) := ⟨⟨by decide +kernel, by decide +kernel⟩, List.mem_of_getElem? (i := 765) (by decide +kernel), List.mem_of_getElem? (i := 1007) (by decide +kernel), List.mem_of_getElem? (i := 1008) (by decide +kernel)⟩
theorem lw_p33 : lw_okq (⟨"FieldScribeModel", "becomes", "()V"⟩, 34) := ⟨⟨by decide +kernel, by decide +kernel⟩, List.mem_of_getElem? (i := 765) (by decide +kernel), List.mem_of_getElem? (i := 1011) (by decide +kernel), List.mem_of_getElem? (i := 1012) (by decide +kernel)⟩
theorem lw_p34 : lw_okq (⟨"FieldScribeModel", "grows", "(II)V"⟩, 34) := ⟨⟨by decide +kernel, by decide +kernel⟩, List.mem_of_getElem? (i := 765) (by decide +kernel), List.mem_of_getElem? (i := 1015) (by decide +kernel), List.mem_of_getElem? (i := 1016) (by decide +kernel)⟩
theorem lw_p35 : lw_okq (⟨"FieldScribeModel", "rowOf", "(I)I"⟩, 34) := ⟨⟨by decide +kernel, by decide +kernel⟩, List.mem_of_getElem? (i := 765) (by decide +kernel), List.mem_of_getElem? (i := 1019) (by decide +kernel), List.mem_of_getElem? (i := 1020) (by decide +kernel)⟩
theorem lw_p36 : lw_okq (⟨"FieldScribeModel", "prints", "()V"⟩, 34) := ⟨⟨by decide +kernel, by decide +kernel⟩, List.mem_of_getElem? (i := 765) (by decide +kernel), List.mem_of_getElem? (i := 1023) (by decide +kernel), List.mem_of_getElem? (i := 1024) (by decide +kernel)⟩
theorem lw_p37 : lw_okq (⟨"FieldScribeModel", "drops", "(I)V"⟩, 34) := ⟨⟨by decide +kernel, by decide +kernel⟩, List.mem_of_getElem? (i := 765) (by decide +kernel), List.mem_of_getElem? (i := 1027) (by decide +kernel), List.mem_of_getElem? (i := 1028) (by decide +kernel)⟩
def lw_privs_3 : List (MethodName × Nat) := [(⟨"FieldScribeModel", "sets", "(I)V"⟩, 34), (⟨"FieldScribeModel", "becomes", "()V"⟩, 34), (⟨"FieldScribeModel", "grows", "(II)V"⟩, 34), (⟨"FieldScribeModel", "rowOf", "(I)I"⟩, 34), (⟨"FieldScribeModel", "prints", "()V"⟩, 34), (⟨"FieldScribeModel", "drops", "(I)V"⟩, 34)]
theorem lw_r3 : ∀ q ∈ lw_privs_3, lw_okq q := List.forall_mem_cons.mpr ⟨lw_p32, List.forall_mem_cons.mpr ⟨lw_p33, List.forall_mem_cons.mpr ⟨lw_p34, List.forall_mem_cons.mpr ⟨lw_p35, List.forall_mem_cons.mpr ⟨lw_p36, List.forall_mem_cons.mpr ⟨lw_p37, fun _ h => absurd h List.not_mem_nil⟩⟩⟩⟩⟩⟩
def lw_privs : List (MethodName × Nat) := lw_privs_1 ++ (lw_privs_2 ++ (lw_privs_3))
def lw_tbl : List Cond := k2_sels lw_privs ++ tables_1
theorem lw_privs_ok : ∀ q ∈ lw_privs, lw_okq q := by
  show ∀ q ∈ lw_privs_1 ++ (lw_privs_2 ++ (lw_privs_3)), lw_okq q
  exact List.forall_mem_append.mpr ⟨lw_r1, List.forall_mem_append.mpr ⟨lw_r2, lw_r3⟩⟩
-- ===== end of PART A; then your names; then what follows =====
end
section
/-! ===== BEGIN words of one list among another's, by their places ===== -/
theorem goodIn_r {big : List Cond} (ws : List Cond) (ps : List Nat) (hp : ws = ps.filterMap (fun i => big[i]?)) (h : ws.all goodWord = true) : GoodIn big ws := by
  intro w hw
  have h1 := List.all_eq_true.mp h w hw
  rw [hp] at hw
  obtain ⟨i, -, hi⟩ := List.mem_filterMap.mp hw
  have hm : w ∈ big := by first | exact List.mem_of_getElem? hi | exact List.getElem?_mem hi
  exact ⟨hm, good_of_word h1⟩
theorem goodIn_app {big a b : List Cond} (ha : GoodIn big a) (hb : GoodIn big b) : GoodIn big (a ++ b) := fun w h => (List.mem_append.mp h).elim (ha w) (hb w)
theorem goodIn_ca {big a b : List Cond} {c : Cond} (ha : GoodIn big (c :: a)) (hb : GoodIn big b) : GoodIn big (c :: (a ++ b)) := fun w h => (List.mem_cons.mp h).elim (fun e => ha w (List.mem_cons.mpr (Or.inl e))) (fun h => (List.mem_append.mp h).elim (fun h => ha w (List.mem_cons.mpr (Or.inr h))) (hb w))
theorem goodIn_sub {big ws : List Cond} (hm : ∀ w ∈ ws, w ∈ big) (h : ws.all goodWord = true) : GoodIn big ws := fun w hw => ⟨hm w hw, good_of_word (List.all_eq_true.mp h w hw)⟩
/-! ===== END ===== -/

/-! ===== BEGIN exceptions that leave a method, and their catching by the caller (launches without stack traces) ===== -/
section VXA
/-! The laws vx_back, vx_callV, vx_callS, vx_callSW, vx_throw0, vx_throwS follow proofs of the library, with one case more: JvmDerived/Free/Laws.lean (Back.of_free), Shelf42/LK1.lean (callV, callS), Shelf/KitTraced.lean (throwNew0V, throwNewS). -/
/-- where a method has thrown q: the class by its name, the cell, what was written, the world -/
def vx_T (XC : String → State → State → Prop) (st : State) (q : Addr) (t : State) (mc ms : Nat) (free : Addr → Prop) : Prop :=
  ∃ (E : String) (ce : Cell) (L : List Loc), XC E st t ∧ t.heap[q]? = some ce ∧ ce.vm = .none ∧ st.vm.findClass E = some ce.cls ∧ st.WarmedH t.vm ∧ st.sameButNew ({ t with vm := st.vm } : State) L mc ms ∧ ∀ z ∈ L, free z.base
def vx_Q (Qc : Array Value → State → Outcome → State → Prop) (XC : String → State → State → Prop) (mc ms : Nat) (free : Addr → Prop) : Array Value → State → Outcome → State → Prop := fun a st o t =>
  (Qc a st o t ∧ ∃ L, FrameEnd st o t L mc ms ∧ ∀ q ∈ L, free q.base) ∨ ∃ q, o = .threw q ∧ vx_T XC st q t mc ms free
/-- a callee that returns or throws -/
def vx_Met (l : Launch) (y : MethodName) (ws : List Cond) (rm : Room) (Pc : Array Value → State → Prop) (Qc : Array Value → State → Outcome → State → Prop) (XC : String → State → State → Prop) (mc ms : Nat) (free : Addr → Prop) : Prop :=
  MetFree l y (headSpec ws rm) Pc (fun _ _ _ _ _ => True) (vx_Q Qc XC mc ms free)
def vx_Post (XC : String → State → State → Prop) (mc ms : Nat) (free : Addr → Prop) : Pt → Array Value → Addr → Pt → Prop := fun A a q B =>
  ∃ (g : JFrame) (mk : MethodId) (t : State) (L : List Loc) (E : String) (ce : Cell), B.U.heap = t.heap ∧ B.U.vm = t.vm ∧ XC E (A.U.calling g mk a) t ∧ t.heap[q]? = some ce ∧ ce.vm = .none ∧ A.U.vm.findClass E = some ce.cls ∧ B.locs = A.locs ++ L ∧ (∀ z ∈ L, free z.base) ∧ B.cells = A.cells + mc ∧ B.slots = A.slots + ms
def vx_Back (l : Launch) (R : Room) (p : Program) (e : Env) (below : List Frame) (s : State) (sargs : Array Value) (y : MethodName) (len W9 : Nat)
    (Pre : Pt → Array Value → Prop) (Post : Pt → Array Value → Option Value → Pt → Prop) (PostX : Pt → Array Value → Addr → Pt → Prop) : Prop :=
  ∀ (m : MethodId) (meth : Method) (c : Code) (A : Pt) (g : JFrame) (ig : Instr) (mk : MethodId) (a : Array Value),
    Stand p l e R s m sargs below meth c A.U A.locs A.cells A.slots → g.method = m → g.locals.size = c.maxLocals → decode c.code g.pc = .ok (ig, len) →
    2 * g.monitorRoom + (g.stack.map fun v => v.category).sum ≤ W9 → A.U.methodNamed? y = some mk → Pre A a →
    (∃ (v : Option Value) (B : Pt), Stand p l e R s m sargs below meth c B.U B.locs B.cells B.slots ∧ Post A a v B ∧
      Steps p.tables e below (doInvoke e (A.U.setTop g) [] mk a).1 (B.U.setTop { g with pc := g.pc + len, stack := v.toList ++ g.stack })) ∨
    (∃ (q : Addr) (B : Pt), Stand p l e R s m sargs below meth c B.U B.locs B.cells B.slots ∧ PostX A a q B ∧
      Steps p.tables e below (doInvoke e (A.U.setTop g) [] mk a).1 ((B.U.setTop g).pushFrame (.throwing q)))
section Payer
variable {l : Launch} {R : Room} {p : Program} {e : Env} {below : List Frame} {s : State} {sargs : Array Value} {y : MethodName} {len W9 : Nat}
theorem vx_back {ws : List Cond} {rm : Room} {Pc : Array Value → State → Prop} {Qc : Array Value → State → Outcome → State → Prop} {XC : String → State → State → Prop} {mc ms : Nat} {free : Addr → Prop} {bytes : ByteArray} {maxL : Nat} {ret : Option FieldType}
    (hM : vx_Met l y ws rm Pc Qc XC mc ms free) (hblind : FrameBlind Pc) (hrc : rm.cells = mc) (hrs : rm.slots = ms)
    (hframes : rm.frames + 1 ≤ R.frames) (hlocals : W9 + (maxL + 11) + rm.locals ≤ R.locals)
    (hws : ∀ w ∈ ws, ∀ a' U, s.WarmedH U.vm → w.before a' U = true) (hcode : Cond.code y bytes maxL ret ∈ ws) (hinit : ∀ a' U, s.WarmedH U.vm → (Cond.initialized y.cls).before a' U = true) :
    vx_Back l R p e below s sargs y len W9 (PreOf R mc ms Pc) (PostOf Qc mc ms free) (vx_Post XC mc ms free) := by
  intro m meth c A g ig mk a X hg hsize hdg hW hn hp
  have h1 : (headSpec ws rm).pre.before a A.U = true := atoms_intro fun w hw => hws w hw _ _ X.warmed
  have h2 : (Cond.code y bytes maxL ret).before a A.U = true := hws _ hcode _ _ X.warmed
  have h3 : (Cond.initialized y.cls).before a A.U = true := hinit _ _ X.warmed
  have h4 : A.cells + (headSpec ws rm).room.cells ≤ R.cells := by rw [show (headSpec ws rm).room.cells = mc from hrc]; exact hp.1
  have h5 : A.slots + (headSpec ws rm).room.slots ≤ R.slots := by rw [show (headSpec ws rm).room.slots = ms from hrs]; exact hp.2.1
  have hPc : Pc a (A.U.calling g mk a) := hblind _ _ _ _ hp.2.2
  obtain ⟨U, Ls, c0, s0⟩ := A
  dsimp only [Pt.U, Pt.locs, Pt.cells, Pt.slots] at h1 h2 h3 h4 h5 X hn hPc ⊢
  obtain ⟨methY, cY, hmY, hcY, -, hlY, -, -, -, -⟩ := Cond.code_spec hn h2
  obtain ⟨kY, hkY, -⟩ := className_of_methodNamed hn
  have hinitY : kY.init = .initialized := Cond.initialized_spec (findClass_of_methodNamed hn) hkY h3
  have h : At U g.method c below := by rw [hg]; exact X.here
  have hlocals9 : W9 + (maxL + 11) + (headSpec ws rm).room.locals ≤ R.locals := hlocals
  have happ : (headSpec ws rm).appliesLoose y e.platform (U.calling g mk a) = true :=
    Spec.appliesLoose_calling (g := g) h hdg hn hkY hinitY
      (X.room_calling (g := g) (R' := (headSpec ws rm).room) hsize hmY hcY hframes (by rw [hlY]; omega) h4 h5) h1
  obtain ⟨mid, hmid⟩ := h.above
  have hfr : (U.setTop g).frames = (.java g :: mid) ++ below := by rw [State.frames_setTop' g h.top, hmid]; rfl
  obtain ⟨o, s₂, hsteps, -, hend, hq⟩ := Steps.callFree hM p X.admits X.cas X.clock (acts := []) hfr happ hPc trivial
  have hq' : vx_Q Qc XC mc ms free a (U.calling g mk a) o s₂ := hq
  rw [State.frames_setTop' g h.top] at hend
  obtain ⟨g₀, hg0⟩ := Option.isSome_iff_exists.mp h.top
  obtain ⟨r, hr⟩ := State.topJava?_eq_some.mp hg0
  have hr' : (({ U with heap := s₂.heap, slotsUsed := s₂.slotsUsed } : State).setVm s₂.vm).frames = .java g₀ :: r := hr
  rcases hq' with ⟨hqc, L, hfe, hL⟩ | ⟨q, rfl, E, ce, L, hx, hce, hcv, hcl, hW₂, hsm, hL⟩
  · obtain ⟨⟨v, rfl⟩, hW₂, e2, q2, q3, q4, q5, q6⟩ := id hfe
    have e3 : s₂ = ({ (U.calling g mk a).setFrames s₂.frames with heap := s₂.heap, slotsUsed := s₂.slotsUsed } : State).setVm s₂.vm := by
      have : s₂ = ({ s₂ with vm := (U.calling g mk a).vm } : State).setVm s₂.vm := rfl
      rw [e2] at this
      exact this
    obtain ⟨c₂, i₂, len₂, hc₂, hd₂, hf₂⟩ := hend
    have hW' : U.WarmedH s₂.vm := hW₂
    have hcc : c₂ = c := by
      have h1 : s₂.code? g.method = U.code? g.method := by
        rw [State.code?_eq, State.code?_eq, hW'.alike.method?]
      exact Option.some.inj (hc₂.symm.trans (h1.trans h.code))
    subst hcc
    have hlen : len₂ = len := by rw [hdg] at hd₂; cases hd₂; rfl
    subst hlen
    have hs₂ : s₂ = (({ U with heap := s₂.heap, slotsUsed := s₂.slotsUsed } : State).setVm s₂.vm).setTop { g with pc := g.pc + len₂, stack := v.toList ++ g.stack } := by
      refine e3.trans ?_
      rw [hf₂, State.calling_eq h.top, State.setFrames_setFrames, State.setTop_of_frames _ hr', hr]
      rfl
    have hsame : U.sameButNew ({ U with heap := s₂.heap, slotsUsed := s₂.slotsUsed } : State) L mc ms := by
      refine ⟨?_, q2, q3, q4, q5, q6⟩
      obtain ⟨t, ht, -⟩ := State.frames_cons hr
      show ({ U with heap := s₂.heap, slotsUsed := s₂.slotsUsed } : State) = { U.setFrames U.frames with heap := s₂.heap, slotsUsed := s₂.slotsUsed }
      rw [State.setFrames_self ht]
    subst hg
    refine Or.inl ⟨v, ⟨(({ U with heap := s₂.heap, slotsUsed := s₂.slotsUsed } : State).setVm s₂.vm), Ls ++ L, c0 + mc, s0 + ms⟩,
      ⟨X.admits, X.cas, X.clock, X.frames, X.room, X.hears, X.method, X.code, (X.here.setHeapUsed s₂.heap s₂.slotsUsed).setVm hW'.alike, X.tail, State.WarmedH.trans X.warmed hW', X.limits, X.bytes, X.same.trans (hsame.setVm s.vm)⟩,
      ⟨g, mk, s₂, L, rfl, rfl, hqc, rfl, hL, rfl, rfl⟩, ?_⟩
    show Steps p.tables e below _ ((({ U with heap := s₂.heap, slotsUsed := s₂.slotsUsed } : State).setVm s₂.vm).setTop { g with pc := g.pc + len₂, stack := v.toList ++ g.stack })
    rw [← hs₂]
    exact hsteps
  · obtain ⟨e2, q2, q3, q4, q5, q6⟩ := id hsm
    have e3 : s₂ = ({ (U.calling g mk a).setFrames s₂.frames with heap := s₂.heap, slotsUsed := s₂.slotsUsed } : State).setVm s₂.vm := by
      have : s₂ = ({ s₂ with vm := (U.calling g mk a).vm } : State).setVm s₂.vm := rfl
      rw [e2] at this
      exact this
    have hf₂ : s₂.frames = .throwing q :: .java g :: U.frames.tail := hend
    have hW' : U.WarmedH s₂.vm := hW₂
    have hs₂ : s₂ = ((({ U with heap := s₂.heap, slotsUsed := s₂.slotsUsed } : State).setVm s₂.vm).setTop g).pushFrame (.throwing q) := by
      refine e3.trans ?_
      rw [hf₂, State.calling_eq h.top, State.setFrames_setFrames, State.pushFrame, State.frames_setTop _ hr', State.setTop_of_frames _ hr', State.setFrames_setFrames, hr]
      rfl
    have hsame : U.sameButNew ({ U with heap := s₂.heap, slotsUsed := s₂.slotsUsed } : State) L mc ms := by
      refine ⟨?_, q2, q3, q4, q5, q6⟩
      obtain ⟨t, ht, -⟩ := State.frames_cons hr
      show ({ U with heap := s₂.heap, slotsUsed := s₂.slotsUsed } : State) = { U.setFrames U.frames with heap := s₂.heap, slotsUsed := s₂.slotsUsed }
      rw [State.setFrames_self ht]
    subst hg
    refine Or.inr ⟨q, ⟨(({ U with heap := s₂.heap, slotsUsed := s₂.slotsUsed } : State).setVm s₂.vm), Ls ++ L, c0 + mc, s0 + ms⟩,
      ⟨X.admits, X.cas, X.clock, X.frames, X.room, X.hears, X.method, X.code, (X.here.setHeapUsed s₂.heap s₂.slotsUsed).setVm hW'.alike, X.tail, State.WarmedH.trans X.warmed hW', X.limits, X.bytes, X.same.trans (hsame.setVm s.vm)⟩,
      ⟨g, mk, s₂, L, E, ce, rfl, rfl, hx, hce, hcv, hcl, rfl, hL, rfl, rfl⟩, ?_⟩
    show Steps p.tables e below _ (((({ U with heap := s₂.heap, slotsUsed := s₂.slotsUsed } : State).setVm s₂.vm).setTop g).pushFrame (.throwing q))
    rw [← hs₂]
    exact hsteps
end Payer
section Calls
variable {p : Program} {l : Launch} {e : Env} {R : Room} {s : State} {m : MethodId} {args : Array Value} {below : List Frame} {meth : Method} {c : Code} {T : State} {locs : List Loc} {cells slots : Nat}
theorem vx_callV (X : Stand p l e R s m args below meth c T locs cells slots) (hexec : p.tables.exec = Jvm.exec) {own C : String} {index : Nat} {y : MethodName} {bytes : ByteArray} {maxL : Nat} {ret : Option FieldType}
    (hown : s.vm.findClass own = some m.cls) (hlink : (Cond.methodLink own index y).before args s = true) (hinst : (Cond.instanceMethod y).before args s = true) (hsel : (Cond.selects C y y).before args s = true)
    (hcode : (Cond.code y bytes maxL ret).before args s = true) (hy : y.cls ≠ "java/lang/invoke/MethodHandle" ∧ y.cls ≠ "java/lang/invoke/VarHandle")
    {W9 : Nat} {Pre : Pt → Array Value → Prop} {Post : Pt → Array Value → Option Value → Pt → Prop} {PostX : Pt → Array Value → Addr → Pt → Prop} (hK : vx_Back l R p e below s args y 3 W9 Pre Post PostX)
    {b : Addr} {cellB : Cell} (hcell : T.heap[b]? = some cellB) (hobj : cellB.vm.isStatics = false) (hcls : s.vm.findClass C = some cellB.cls)
    {g : JFrame} (hg : g.method = m) (hsize : g.locals.size = c.maxLocals) {argsL rest : List Value} (hlen : ∀ sig, parseMethodDescriptor y.desc = some sig → argsL.length = sig.parameters.length)
    (hstack : g.stack = argsL.reverse ++ .ref b :: rest) (hW : 2 * g.monitorRoom + (rest.map fun v => v.category).sum ≤ W9) (hdg : decode c.code g.pc = .ok (.invokevirtual index, 3))
    (hpre : ∀ vm₁, s.WarmedH vm₁ → Pre ⟨T.setVm vm₁, locs, cells, slots⟩ (Value.ref b :: argsL).toArray) :
    (∃ (v : Option Value) (vm₁ : Vm) (B : Pt), s.WarmedH vm₁ ∧ Stand p l e R s m args below meth c B.U B.locs B.cells B.slots ∧ Post ⟨T.setVm vm₁, locs, cells, slots⟩ (Value.ref b :: argsL).toArray v B ∧
      ∀ target, Steps p.tables e below (B.U.setTop { g with pc := g.pc + 3, stack := v.toList ++ rest }) target → Steps p.tables e below (T.setTop g) target) ∨
    (∃ (q : Addr) (vm₁ : Vm) (B : Pt), s.WarmedH vm₁ ∧ Stand p l e R s m args below meth c B.U B.locs B.cells B.slots ∧ PostX ⟨T.setVm vm₁, locs, cells, slots⟩ (Value.ref b :: argsL).toArray q B ∧
      Steps p.tables e below (T.setTop g) ((B.U.setTop { g with stack := rest }).pushFrame (.throwing q))) := by
  obtain ⟨mk, methM, hnamed, hmethM, hstM, habM⟩ := Cond.instanceMethod_spec hinst
  obtain ⟨methM', cM, hmethM', -, -, -, -, -, -, hsigM⟩ := Cond.code_spec hnamed hcode
  cases hmethM.symm.trans hmethM'
  obtain ⟨c2, r2, m2, q1, q2, q3, q4, kP, hkP, hkPi⟩ := Cond.selects_spec hsel
  cases hcls.symm.trans q1
  cases (State.methodFound?_of_named hnamed hy).symm.trans q2
  cases hnamed.symm.trans q3
  have hselP : selectMethod e.platform s.vm cellB.cls mk = .method mk := by rw [Launch.admits_selectMethod X.admits]; exact q4
  obtain ⟨vm₁, X₁, hstep₁⟩ := X.invokevirtual hexec hown hlink hnamed hmethM hstM hkP hkPi hy (a := b) (cell := cellB) hcell
    (fun z h => by rw [h] at hobj; cases hobj) hselP hmethM habM hkP hkPi (g := g) hg (argsL := argsL) (rest := rest) (hlen _ hsigM) hstack hdg
  rcases hK m meth c ⟨T.setVm vm₁, locs, cells, slots⟩ { g with stack := rest } (.invokevirtual index) mk (Value.ref b :: argsL).toArray X₁ hg hsize hdg hW (X₁.named hnamed) (hpre vm₁ X₁.warmed) with ⟨v, B, X', hpost, hsteps⟩ | ⟨q, B, X', hpost, hsteps⟩
  · exact Or.inl ⟨v, vm₁, B, X₁.warmed, X', hpost, fun target h => hstep₁ _ fun acts => by rw [doInvoke_state]; exact hsteps.trans h⟩
  · exact Or.inr ⟨q, vm₁, B, X₁.warmed, X', hpost, hstep₁ _ fun acts => by rw [doInvoke_state]; exact hsteps⟩
theorem vx_callS (X : Stand p l e R s m args below meth c T locs cells slots) (hexec : p.tables.exec = Jvm.exec) {own : String} {index : Nat} {y : MethodName} {bytes : ByteArray} {maxL : Nat} {ret : Option FieldType}
    (hown : s.vm.findClass own = some m.cls) (hlink : (Cond.methodLink own index y).before args s = true) (hstat : (Cond.static y).before args s = true) (hinit : (Cond.initialized y.cls).before args s = true)
    (hcode : (Cond.code y bytes maxL ret).before args s = true) (hy : y.cls ≠ "java/lang/invoke/MethodHandle" ∧ y.cls ≠ "java/lang/invoke/VarHandle")
    {W9 : Nat} {Pre : Pt → Array Value → Prop} {Post : Pt → Array Value → Option Value → Pt → Prop} {PostX : Pt → Array Value → Addr → Pt → Prop} (hK : vx_Back l R p e below s args y 3 W9 Pre Post PostX)
    {g : JFrame} (hg : g.method = m) (hsize : g.locals.size = c.maxLocals) {argsL rest : List Value} (hlen : ∀ sig, parseMethodDescriptor y.desc = some sig → argsL.length = sig.parameters.length)
    (hstack : g.stack = argsL.reverse ++ rest) (hW : 2 * g.monitorRoom + (rest.map fun v => v.category).sum ≤ W9) (hdg : decode c.code g.pc = .ok (.invokestatic index, 3))
    (hpre : ∀ vm₁, s.WarmedH vm₁ → Pre ⟨T.setVm vm₁, locs, cells, slots⟩ argsL.toArray) :
    (∃ (v : Option Value) (vm₁ : Vm) (B : Pt), s.WarmedH vm₁ ∧ Stand p l e R s m args below meth c B.U B.locs B.cells B.slots ∧ Post ⟨T.setVm vm₁, locs, cells, slots⟩ argsL.toArray v B ∧
      ∀ target, Steps p.tables e below (B.U.setTop { g with pc := g.pc + 3, stack := v.toList ++ rest }) target → Steps p.tables e below (T.setTop g) target) ∨
    (∃ (q : Addr) (vm₁ : Vm) (B : Pt), s.WarmedH vm₁ ∧ Stand p l e R s m args below meth c B.U B.locs B.cells B.slots ∧ PostX ⟨T.setVm vm₁, locs, cells, slots⟩ argsL.toArray q B ∧
      Steps p.tables e below (T.setTop g) ((B.U.setTop { g with stack := rest }).pushFrame (.throwing q))) := by
  obtain ⟨mk, hnamed⟩ := Cond.code_named hcode
  obtain ⟨methM, cM, hmethM, -, -, -, -, -, -, hsigM⟩ := Cond.code_spec hnamed hcode
  have hstatic : methM.isStatic = true := Cond.static_spec hnamed hmethM hstat
  obtain ⟨kP, hkP, -⟩ := className_of_methodNamed hnamed
  have hinitP : kP.init = .initialized := Cond.initialized_spec (findClass_of_methodNamed hnamed) hkP hinit
  obtain ⟨vm₁, X₁, hstep₁⟩ := X.invokestatic hexec hown hlink hnamed hmethM hstatic hkP hinitP hy (g := g) hg (argsL := argsL) (rest := rest) (hlen _ hsigM) hstack hdg
  rcases hK m meth c ⟨T.setVm vm₁, locs, cells, slots⟩ { g with stack := rest } (.invokestatic index) mk argsL.toArray X₁ hg hsize hdg hW (X₁.named hnamed) (hpre vm₁ X₁.warmed) with ⟨v, B, X', hpost, hsteps⟩ | ⟨q, B, X', hpost, hsteps⟩
  · exact Or.inl ⟨v, vm₁, B, X₁.warmed, X', hpost, fun target h => hstep₁ _ fun acts => by rw [doInvoke_state]; exact hsteps.trans h⟩
  · exact Or.inr ⟨q, vm₁, B, X₁.warmed, X', hpost, hstep₁ _ fun acts => by rw [doInvoke_state]; exact hsteps⟩
end Calls
theorem vx_cls {s : State} {T : State} {vm₁ : Vm} {E : String} {k : ClassId} (hW : s.WarmedH vm₁) (h : (T.setVm vm₁).vm.findClass E = some k) : s.vm.findClass E = some k := by
  have h1 : vm₁.findClass E = some k := h
  rw [hW.alike.findClass] at h1
  exact h1
/-- the method's frame g, with q thrown over it -/
def vx_W (p : Program) (l : Launch) (e : Env) (R : Room) (s : State) (m : MethodId) (args : Array Value) (below : List Frame) (meth : Method) (c : Code) (H : Heap) (locs : List Loc) (cells slots : Nat) (Q : State → Prop) (g : JFrame) (q : Addr) : Prop :=
  ∀ T : State, T.heap = H → Stand p l e R s m args below meth c T locs cells slots → ∃ t, Steps p.tables e below ((T.setTop g).pushFrame (.throwing q)) t ∧ Q t
def vx_Run (p : Program) (l : Launch) (e : Env) (R : Room) (s : State) (m : MethodId) (args : Array Value) (below : List Frame) (meth : Method) (c : Code) (H : Heap) (locs : List Loc) (cells slots mc ms : Nat) (g : JFrame) (rest : List Value) (Qa : State → Outcome → State → Prop) (XC : String → State → State → Prop) (free : Addr → Prop) : Prop :=
  ∀ T : State, T.heap = H → Stand p l e R s m args below meth c T locs cells slots →
    (∃ (v : Option Value) (st₀ t T' : State) (L : List Loc), st₀.heap = H ∧ Stand p l e R s m args below meth c T' (locs ++ L) (cells + mc) (slots + ms) ∧ (∀ q ∈ L, free q.base) ∧ T'.heap = t.heap ∧ T'.vm = t.vm ∧ Qa st₀ (.returned v) t ∧
      Goes p e below T g T' { g with pc := g.pc + 3, stack := v.toList ++ rest }) ∨
    (∃ (q : Addr) (st₀ t T' : State) (L : List Loc) (E : String) (ce : Cell), st₀.heap = H ∧ Stand p l e R s m args below meth c T' (locs ++ L) (cells + mc) (slots + ms) ∧ (∀ z ∈ L, free z.base) ∧ T'.heap = t.heap ∧ T'.vm = t.vm ∧ XC E st₀ t ∧ t.heap[q]? = some ce ∧ ce.vm = .none ∧ s.vm.findClass E = some ce.cls ∧
      Steps p.tables e below (T.setTop g) ((T'.setTop { g with stack := rest }).pushFrame (.throwing q)))
def vx_X {S : Type} (px : S → Prop) (B : String → S → State → Prop) (A : Nat → Prop) : String → State → State → Prop := fun E st t => ∃ u : S, px u ∧ B E u t ∧ va_F A st t
section Runs
variable {p : Program} {l : Launch} {e : Env} {R : Room} {s : State} {m : MethodId} {args : Array Value} {below : List Frame} {meth : Method} {c : Code} {H : Heap} {locs : List Loc} {cells slots : Nat}
variable {y : MethodName} {bytes cc : ByteArray} {maxL nL mc ms n index : Nat} {ret : Option FieldType} {ws : List Cond} {rm : Room} {Pc : Array Value → State → Prop} {Qc : Array Value → State → Outcome → State → Prop} {XC : String → State → State → Prop} {free : Addr → Prop} {Ts : List Cond} {own C : String} {b : Addr} {As rest : List Value} {g : JFrame}
theorem vx_callBack (cb : CallB R s args own index y bytes maxL ret ws rm mc ms n) (hM : vx_Met l y ws rm Pc Qc XC mc ms free) (hbl : FrameBlind Pc) : vx_Back l R p e below s args y 3 8 (PreOf R mc ms Pc) (PostOf Qc mc ms free) (vx_Post XC mc ms free) := by
  obtain ⟨hrc, hrs, hfr, hlo, hws, hcw, -, hini, -⟩ := cb
  exact vx_back (bytes := bytes) (maxL := maxL) (ret := ret) hM hbl hrc hrs hfr hlo hws hcw (fun a' U hW => word_at hW (Or.inl (by first | rfl | simp [Cond.onTables, Cond.keeps, Cond.steady])) hini)
theorem vx_runV (S : CallFix p m c cc nL s args Ts own) (hM : vx_Met l y ws rm Pc Qc XC mc ms free) (cw : CallW R s args own C index y bytes maxL ret ws rm mc ms n) (hp : PreV s H C b Pc As)
    (hg : g.method = m) (hn : As.length = n) (hsize : g.locals.size = nL) (hstack : g.stack = As.reverse ++ .ref b :: rest) (hW : 2 * g.monitorRoom + (rest.map fun v => v.category).sum ≤ 8) (hdg : decode cc g.pc = .ok (.invokevirtual index, 3)) (hf : cells + mc ≤ R.cells ∧ slots + ms ≤ R.slots) :
    vx_Run p l e R s m args below meth c H locs cells slots mc ms g rest (Qc (Value.ref b :: As).toArray) XC free := by
  have hK : vx_Back l R p e below s args y 3 8 (PreOf R mc ms Pc) (PostOf Qc mc ms free) (vx_Post XC mc ms free) := vx_callBack cw.1 hM hp.1
  obtain ⟨⟨-, -, -, -, -, -, hcode, -, hy, hlen, hl⟩, hin, hse⟩ := cw
  obtain ⟨hx, hb, hml, ho, -⟩ := S
  obtain ⟨-, ⟨cellB, hcB, hoB, hclB⟩, hPc⟩ := hp
  intro T hT X
  rcases vx_callV X hx (C := C) (bytes := bytes) (maxL := maxL) (ret := ret) ho hl hin hse hcode hy hK (by rw [hT]; exact hcB) hoB hclB hg (hsize.trans hml.symm) (argsL := As) (rest := rest) (fun sig h => hn.trans (hlen sig h)) hstack hW (by rw [hb]; exact hdg)
    (fun vm₁ hW₁ => ⟨hf.1, hf.2, hPc (T.setVm vm₁) hT hW₁⟩) with ⟨v, vm₁, ⟨U', l2, c2, s2⟩, hW₁, X', ⟨g', mk, t, L, e1, e2, hq, h1, hL, h2, h3⟩, st⟩ | ⟨q, vm₁, ⟨U', l2, c2, s2⟩, hW₁, X', ⟨g', mk, t, L, E, ce, e1, e2, hq, hce, hcv, hcl, h1, hL, h2, h3⟩, st⟩
  · dsimp only [Pt.U, Pt.locs, Pt.cells, Pt.slots] at X' e1 e2 h1 h2 h3 st
    subst h1; subst h2; subst h3
    exact Or.inl ⟨v, (T.setVm vm₁).calling g' mk (Value.ref b :: As).toArray, t, U', L, hT, X', hL, e1, e2, hq, st⟩
  · dsimp only [Pt.U, Pt.locs, Pt.cells, Pt.slots] at X' e1 e2 h1 h2 h3 st hcl
    subst h1; subst h2; subst h3
    exact Or.inr ⟨q, (T.setVm vm₁).calling g' mk (Value.ref b :: As).toArray, t, U', L, E, ce, hT, X', hL, e1, e2, hq, hce, hcv, vx_cls hW₁ hcl, st⟩
theorem vx_runS (S : CallFix p m c cc nL s args Ts own) (hM : vx_Met l y ws rm Pc Qc XC mc ms free) (cw : CallB R s args own index y bytes maxL ret ws rm mc ms n ∧ (Cond.static y).before args s = true) (hp : PreS s H Pc As)
    (hg : g.method = m) (hn : As.length = n) (hsize : g.locals.size = nL) (hstack : g.stack = As.reverse ++ rest) (hW : 2 * g.monitorRoom + (rest.map fun v => v.category).sum ≤ 8) (hdg : decode cc g.pc = .ok (.invokestatic index, 3)) (hf : cells + mc ≤ R.cells ∧ slots + ms ≤ R.slots) :
    vx_Run p l e R s m args below meth c H locs cells slots mc ms g rest (Qc As.toArray) XC free := by
  have hK : vx_Back l R p e below s args y 3 8 (PreOf R mc ms Pc) (PostOf Qc mc ms free) (vx_Post XC mc ms free) := vx_callBack cw.1 hM hp.1
  obtain ⟨⟨-, -, -, -, -, -, hcode, hini, hy, hlen, hl⟩, hstt⟩ := cw
  obtain ⟨hx, hb, hml, ho, -⟩ := S
  intro T hT X
  rcases vx_callS X hx (bytes := bytes) (maxL := maxL) (ret := ret) ho hl hstt hini hcode hy hK hg (hsize.trans hml.symm) (argsL := As) (rest := rest) (fun sig h => hn.trans (hlen sig h)) hstack hW (by rw [hb]; exact hdg)
    (fun vm₁ hW₁ => ⟨hf.1, hf.2, hp.2 (T.setVm vm₁) hT hW₁⟩) with ⟨v, vm₁, ⟨U', l2, c2, s2⟩, hW₁, X', ⟨g', mk, t, L, e1, e2, hq, h1, hL, h2, h3⟩, st⟩ | ⟨q, vm₁, ⟨U', l2, c2, s2⟩, hW₁, X', ⟨g', mk, t, L, E, ce, e1, e2, hq, hce, hcv, hcl, h1, hL, h2, h3⟩, st⟩
  · dsimp only [Pt.U, Pt.locs, Pt.cells, Pt.slots] at X' e1 e2 h1 h2 h3 st
    subst h1; subst h2; subst h3
    exact Or.inl ⟨v, (T.setVm vm₁).calling g' mk As.toArray, t, U', L, hT, X', hL, e1, e2, hq, st⟩
  · dsimp only [Pt.U, Pt.locs, Pt.cells, Pt.slots] at X' e1 e2 h1 h2 h3 st hcl
    subst h1; subst h2; subst h3
    exact Or.inr ⟨q, (T.setVm vm₁).calling g' mk As.toArray, t, U', L, E, ce, hT, X', hL, e1, e2, hq, hce, hcv, vx_cls hW₁ hcl, st⟩
end Runs
section Rows
variable {p : Program} {l : Launch} {e : Env} {R : Room} {s : State} {m : MethodId} {args : Array Value} {below : List Frame} {meth : Method} {c : Code} {H : Heap} {locs : List Loc} {cells slots : Nat} {Q : State → Prop}
variable {mc ms : Nat} {free : Addr → Prop} {A0 A1 : Nat → Prop} {H0 : Heap} {a : Array Value} {pc : Nat} {ls : Array Slot} {st0 rest : List Value}
theorem vx_keep {st₀ t T' : State} {L : List Loc} (h0 : st₀.heap = H) (e1 : T'.heap = t.heap) (hS : va_S A0 H0 H locs) (hA : ∀ q, q < H.size → A1 q → A0 q) (hf : ∀ q, free q → A0 q) (hL : ∀ q ∈ L, free q.base) (hF : va_F A1 st₀ t) :
    H.size ≤ T'.heap.size ∧ (∀ q : Nat, q < H.size → ¬ A1 q → T'.heap[q]? = H[q]?) ∧ va_S A0 H0 T'.heap (locs ++ L) := by
  obtain ⟨hz, hk⟩ := hF
  rw [h0] at hz hk
  exact ⟨by rw [e1]; exact hz, fun q h1 h2 => by rw [e1]; exact hk q h1 h2,
    ⟨Nat.le_trans hS.1 (by rw [e1]; exact hz), fun q h1 h2 => by rw [e1, hk q (Nat.lt_of_lt_of_le h1 hS.1) (fun z => h2 (hA q (Nat.lt_of_lt_of_le h1 hS.1) z))]; exact hS.2.1 q h1 h2, fun q hq => by
      rcases List.mem_append.mp hq with h | h
      · exact hS.2.2 q h
      · exact hf _ (hL q h)⟩⟩
theorem vx_calli {S SX : Type} {post : Int32 → S → Prop} {px : SX → Prop} {B : S → State → Prop} {BX : String → SX → State → Prop} {AX : Nat → Prop} (hr : vx_Run p l e R s m args below meth c H locs cells slots mc ms (F0 m pc ls st0) rest (va_Qi post B A1 a) (vx_X px BX AX) free) (hS : va_S A0 H0 H locs) (hA : ∀ q, q < H.size → A1 q → A0 q) (hf : ∀ q, free q → A0 q) (hAX : ∀ q, q < H.size → AX q → A0 q)
    (kx : ∀ (E : String) (ce : Cell) (q9 : Addr) (u : SX) (t : State) (H1 : Heap) (locs1 : List Loc), t.heap = H1 → s.vm.Alike t.vm → px u → BX E u t → H.size ≤ H1.size → (∀ q : Nat, q < H.size → ¬ AX q → H1[q]? = H[q]?) → va_S A0 H0 H1 locs1 → H1[q9]? = some ce → ce.vm = .none → s.vm.findClass E = some ce.cls → vx_W p l e R s m args below meth c H1 locs1 (cells + mc) (slots + ms) Q (F0 m pc ls rest) q9)
    (kk : ∀ (r : Int32) (u : S) (t : State) (H1 : Heap) (locs1 : List Loc), t.heap = H1 → s.vm.Alike t.vm → post r u → B u t → H.size ≤ H1.size → (∀ q : Nat, q < H.size → ¬ A1 q → H1[q]? = H[q]?) → va_S A0 H0 H1 locs1 → W p l e R s m args below meth c H1 locs1 (cells + mc) (slots + ms) Q (F0 m (pc + 3) ls (.int r :: rest))) : W p l e R s m args below meth c H locs cells slots Q (F0 m pc ls st0) := by
  intro T hT X
  rcases hr T hT X with ⟨v, st₀, t, T', L, h0, X', hL, e1, e2, ⟨⟨r, u, hv, hp, hb⟩, hF⟩, st⟩ | ⟨q, st₀, t, T', L, E, ce, h0, X', hL, e1, e2, ⟨u, hp, hb, hF⟩, hce, hcv, hcl, st⟩
  · cases hv
    obtain ⟨k1, k2, k3⟩ := vx_keep h0 e1 hS hA hf hL hF
    obtain ⟨t2, a1, b1⟩ := kk r u t T'.heap (locs ++ L) e1.symm (by rw [← e2]; exact X'.warmed.alike) hp hb k1 k2 k3 T' rfl X'
    exact ⟨t2, st t2 a1, b1⟩
  · obtain ⟨k1, k2, k3⟩ := vx_keep h0 e1 hS hAX hf hL hF
    obtain ⟨t2, a1, b1⟩ := kx E ce q u t T'.heap (locs ++ L) e1.symm (by rw [← e2]; exact X'.warmed.alike) hp hb k1 k2 k3 (by rw [e1]; exact hce) hcv hcl T' rfl X'
    exact ⟨t2, st.trans a1, b1⟩
theorem vx_calll {S SX : Type} {post : Int64 → S → Prop} {px : SX → Prop} {B : S → State → Prop} {BX : String → SX → State → Prop} {AX : Nat → Prop} (hr : vx_Run p l e R s m args below meth c H locs cells slots mc ms (F0 m pc ls st0) rest (va_Ql post B A1 a) (vx_X px BX AX) free) (hS : va_S A0 H0 H locs) (hA : ∀ q, q < H.size → A1 q → A0 q) (hf : ∀ q, free q → A0 q) (hAX : ∀ q, q < H.size → AX q → A0 q)
    (kx : ∀ (E : String) (ce : Cell) (q9 : Addr) (u : SX) (t : State) (H1 : Heap) (locs1 : List Loc), t.heap = H1 → s.vm.Alike t.vm → px u → BX E u t → H.size ≤ H1.size → (∀ q : Nat, q < H.size → ¬ AX q → H1[q]? = H[q]?) → va_S A0 H0 H1 locs1 → H1[q9]? = some ce → ce.vm = .none → s.vm.findClass E = some ce.cls → vx_W p l e R s m args below meth c H1 locs1 (cells + mc) (slots + ms) Q (F0 m pc ls rest) q9)
    (kk : ∀ (r : Int64) (u : S) (t : State) (H1 : Heap) (locs1 : List Loc), t.heap = H1 → s.vm.Alike t.vm → post r u → B u t → H.size ≤ H1.size → (∀ q : Nat, q < H.size → ¬ A1 q → H1[q]? = H[q]?) → va_S A0 H0 H1 locs1 → W p l e R s m args below meth c H1 locs1 (cells + mc) (slots + ms) Q (F0 m (pc + 3) ls (.long r :: rest))) : W p l e R s m args below meth c H locs cells slots Q (F0 m pc ls st0) := by
  intro T hT X
  rcases hr T hT X with ⟨v, st₀, t, T', L, h0, X', hL, e1, e2, ⟨⟨r, u, hv, hp, hb⟩, hF⟩, st⟩ | ⟨q, st₀, t, T', L, E, ce, h0, X', hL, e1, e2, ⟨u, hp, hb, hF⟩, hce, hcv, hcl, st⟩
  · cases hv
    obtain ⟨k1, k2, k3⟩ := vx_keep h0 e1 hS hA hf hL hF
    obtain ⟨t2, a1, b1⟩ := kk r u t T'.heap (locs ++ L) e1.symm (by rw [← e2]; exact X'.warmed.alike) hp hb k1 k2 k3 T' rfl X'
    exact ⟨t2, st t2 a1, b1⟩
  · obtain ⟨k1, k2, k3⟩ := vx_keep h0 e1 hS hAX hf hL hF
    obtain ⟨t2, a1, b1⟩ := kx E ce q u t T'.heap (locs ++ L) e1.symm (by rw [← e2]; exact X'.warmed.alike) hp hb k1 k2 k3 (by rw [e1]; exact hce) hcv hcl T' rfl X'
    exact ⟨t2, st.trans a1, b1⟩
theorem vx_callf {S SX : Type} {post : UInt32 → S → Prop} {px : SX → Prop} {B : S → State → Prop} {BX : String → SX → State → Prop} {AX : Nat → Prop} (hr : vx_Run p l e R s m args below meth c H locs cells slots mc ms (F0 m pc ls st0) rest (va_Qf post B A1 a) (vx_X px BX AX) free) (hS : va_S A0 H0 H locs) (hA : ∀ q, q < H.size → A1 q → A0 q) (hf : ∀ q, free q → A0 q) (hAX : ∀ q, q < H.size → AX q → A0 q)
    (kx : ∀ (E : String) (ce : Cell) (q9 : Addr) (u : SX) (t : State) (H1 : Heap) (locs1 : List Loc), t.heap = H1 → s.vm.Alike t.vm → px u → BX E u t → H.size ≤ H1.size → (∀ q : Nat, q < H.size → ¬ AX q → H1[q]? = H[q]?) → va_S A0 H0 H1 locs1 → H1[q9]? = some ce → ce.vm = .none → s.vm.findClass E = some ce.cls → vx_W p l e R s m args below meth c H1 locs1 (cells + mc) (slots + ms) Q (F0 m pc ls rest) q9)
    (kk : ∀ (r : UInt32) (u : S) (t : State) (H1 : Heap) (locs1 : List Loc), t.heap = H1 → s.vm.Alike t.vm → post r u → B u t → H.size ≤ H1.size → (∀ q : Nat, q < H.size → ¬ A1 q → H1[q]? = H[q]?) → va_S A0 H0 H1 locs1 → W p l e R s m args below meth c H1 locs1 (cells + mc) (slots + ms) Q (F0 m (pc + 3) ls (.float r :: rest))) : W p l e R s m args below meth c H locs cells slots Q (F0 m pc ls st0) := by
  intro T hT X
  rcases hr T hT X with ⟨v, st₀, t, T', L, h0, X', hL, e1, e2, ⟨⟨r, u, hv, hp, hb⟩, hF⟩, st⟩ | ⟨q, st₀, t, T', L, E, ce, h0, X', hL, e1, e2, ⟨u, hp, hb, hF⟩, hce, hcv, hcl, st⟩
  · cases hv
    obtain ⟨k1, k2, k3⟩ := vx_keep h0 e1 hS hA hf hL hF
    obtain ⟨t2, a1, b1⟩ := kk r u t T'.heap (locs ++ L) e1.symm (by rw [← e2]; exact X'.warmed.alike) hp hb k1 k2 k3 T' rfl X'
    exact ⟨t2, st t2 a1, b1⟩
  · obtain ⟨k1, k2, k3⟩ := vx_keep h0 e1 hS hAX hf hL hF
    obtain ⟨t2, a1, b1⟩ := kx E ce q u t T'.heap (locs ++ L) e1.symm (by rw [← e2]; exact X'.warmed.alike) hp hb k1 k2 k3 (by rw [e1]; exact hce) hcv hcl T' rfl X'
    exact ⟨t2, st.trans a1, b1⟩
theorem vx_calld {S SX : Type} {post : UInt64 → S → Prop} {px : SX → Prop} {B : S → State → Prop} {BX : String → SX → State → Prop} {AX : Nat → Prop} (hr : vx_Run p l e R s m args below meth c H locs cells slots mc ms (F0 m pc ls st0) rest (va_Qd post B A1 a) (vx_X px BX AX) free) (hS : va_S A0 H0 H locs) (hA : ∀ q, q < H.size → A1 q → A0 q) (hf : ∀ q, free q → A0 q) (hAX : ∀ q, q < H.size → AX q → A0 q)
    (kx : ∀ (E : String) (ce : Cell) (q9 : Addr) (u : SX) (t : State) (H1 : Heap) (locs1 : List Loc), t.heap = H1 → s.vm.Alike t.vm → px u → BX E u t → H.size ≤ H1.size → (∀ q : Nat, q < H.size → ¬ AX q → H1[q]? = H[q]?) → va_S A0 H0 H1 locs1 → H1[q9]? = some ce → ce.vm = .none → s.vm.findClass E = some ce.cls → vx_W p l e R s m args below meth c H1 locs1 (cells + mc) (slots + ms) Q (F0 m pc ls rest) q9)
    (kk : ∀ (r : UInt64) (u : S) (t : State) (H1 : Heap) (locs1 : List Loc), t.heap = H1 → s.vm.Alike t.vm → post r u → B u t → H.size ≤ H1.size → (∀ q : Nat, q < H.size → ¬ A1 q → H1[q]? = H[q]?) → va_S A0 H0 H1 locs1 → W p l e R s m args below meth c H1 locs1 (cells + mc) (slots + ms) Q (F0 m (pc + 3) ls (.double r :: rest))) : W p l e R s m args below meth c H locs cells slots Q (F0 m pc ls st0) := by
  intro T hT X
  rcases hr T hT X with ⟨v, st₀, t, T', L, h0, X', hL, e1, e2, ⟨⟨r, u, hv, hp, hb⟩, hF⟩, st⟩ | ⟨q, st₀, t, T', L, E, ce, h0, X', hL, e1, e2, ⟨u, hp, hb, hF⟩, hce, hcv, hcl, st⟩
  · cases hv
    obtain ⟨k1, k2, k3⟩ := vx_keep h0 e1 hS hA hf hL hF
    obtain ⟨t2, a1, b1⟩ := kk r u t T'.heap (locs ++ L) e1.symm (by rw [← e2]; exact X'.warmed.alike) hp hb k1 k2 k3 T' rfl X'
    exact ⟨t2, st t2 a1, b1⟩
  · obtain ⟨k1, k2, k3⟩ := vx_keep h0 e1 hS hAX hf hL hF
    obtain ⟨t2, a1, b1⟩ := kx E ce q u t T'.heap (locs ++ L) e1.symm (by rw [← e2]; exact X'.warmed.alike) hp hb k1 k2 k3 (by rw [e1]; exact hce) hcv hcl T' rfl X'
    exact ⟨t2, st.trans a1, b1⟩
theorem vx_callv {S SX : Type} {post : S → Prop} {px : SX → Prop} {B : S → State → Prop} {BX : String → SX → State → Prop} {AX : Nat → Prop} (hr : vx_Run p l e R s m args below meth c H locs cells slots mc ms (F0 m pc ls st0) rest (va_Qv post B A1 a) (vx_X px BX AX) free) (hS : va_S A0 H0 H locs) (hA : ∀ q, q < H.size → A1 q → A0 q) (hf : ∀ q, free q → A0 q) (hAX : ∀ q, q < H.size → AX q → A0 q)
    (kx : ∀ (E : String) (ce : Cell) (q9 : Addr) (u : SX) (t : State) (H1 : Heap) (locs1 : List Loc), t.heap = H1 → s.vm.Alike t.vm → px u → BX E u t → H.size ≤ H1.size → (∀ q : Nat, q < H.size → ¬ AX q → H1[q]? = H[q]?) → va_S A0 H0 H1 locs1 → H1[q9]? = some ce → ce.vm = .none → s.vm.findClass E = some ce.cls → vx_W p l e R s m args below meth c H1 locs1 (cells + mc) (slots + ms) Q (F0 m pc ls rest) q9)
    (kk : ∀ (u : S) (t : State) (H1 : Heap) (locs1 : List Loc), t.heap = H1 → s.vm.Alike t.vm → post u → B u t → H.size ≤ H1.size → (∀ q : Nat, q < H.size → ¬ A1 q → H1[q]? = H[q]?) → va_S A0 H0 H1 locs1 → W p l e R s m args below meth c H1 locs1 (cells + mc) (slots + ms) Q (F0 m (pc + 3) ls (rest))) : W p l e R s m args below meth c H locs cells slots Q (F0 m pc ls st0) := by
  intro T hT X
  rcases hr T hT X with ⟨v, st₀, t, T', L, h0, X', hL, e1, e2, ⟨⟨u, hv, hp, hb⟩, hF⟩, st⟩ | ⟨q, st₀, t, T', L, E, ce, h0, X', hL, e1, e2, ⟨u, hp, hb, hF⟩, hce, hcv, hcl, st⟩
  · cases hv
    obtain ⟨k1, k2, k3⟩ := vx_keep h0 e1 hS hA hf hL hF
    obtain ⟨t2, a1, b1⟩ := kk u t T'.heap (locs ++ L) e1.symm (by rw [← e2]; exact X'.warmed.alike) hp hb k1 k2 k3 T' rfl X'
    exact ⟨t2, st t2 a1, b1⟩
  · obtain ⟨k1, k2, k3⟩ := vx_keep h0 e1 hS hAX hf hL hF
    obtain ⟨t2, a1, b1⟩ := kx E ce q u t T'.heap (locs ++ L) e1.symm (by rw [← e2]; exact X'.warmed.alike) hp hb k1 k2 k3 (by rw [e1]; exact hce) hcv hcl T' rfl X'
    exact ⟨t2, st.trans a1, b1⟩
/-- caught by the row x of this method's table; the rows ahead don't take it -/
theorem vx_catch {own name : String} {E : String} {ce : Cell} {q : Addr} (hown : s.vm.findClass own = some m.cls) (pre : List ExceptionTableEntry) (x : ExceptionTableEntry) (suf : List ExceptionTableEntry) (hsplit : c.exceptionTable.toList = pre ++ x :: suf)
    (hpass : ∀ z ∈ pre, covers z pc = false ∨ (z.catchType ≠ 0 ∧ ∃ nm : String, (Cond.classLink own z.catchType nm).before args s = true ∧ va_Nc E nm s)) (hx : covers x pc = true) (h0 : x.catchType ≠ 0)
    (hlink : (Cond.classLink own x.catchType name).before args s = true) (hcast : (Cond.castable E name).before args s = true) (hcell : H[q]? = some ce) (hv : ce.vm = .none) (hcl : s.vm.findClass E = some ce.cls)
    (kk : W p l e R s m args below meth c H locs cells slots Q (F0 m x.handlerPc ls [.ref q])) : vx_W p l e R s m args below meth c H locs cells slots Q (F0 m pc ls rest) q := by
  intro T hT X
  have hpl : e.platform.magicAccessors = ({} : Platform).magicAccessors := by rw [X.admits.platform]
  obtain ⟨c3, c4, hc3, hc4, hasg⟩ := Cond.castable_spec hcast
  cases Option.some.inj (hc3.symm.trans hcl)
  obtain ⟨c5, hc5, hcl5⟩ := Cond.classLink_spec hown hlink e.platform hpl
  cases Option.some.inj (hc4.symm.trans hc5)
  obtain ⟨vm', X', st⟩ := X.thenCaughtThrough q (g := F0 m pc ls rest) rfl (Steps.refl _) (by rw [hT]; exact hcell) (by rw [hv]; rfl) (by obtain ⟨k9, h9, -⟩ := Vm.findClass_spec hcl; exact ⟨k9, h9⟩) pre x suf hsplit
    (fun z hz => by
      rcases hpass z hz with h | ⟨hz0, nm, hl1, hn1⟩
      · exact Or.inl h
      · obtain ⟨c6, hc6, hcl6⟩ := Cond.classLink_spec hown hl1 e.platform hpl
        obtain ⟨a8, b8, h1, h2, h3⟩ := hn1
        cases Option.some.inj (h1.symm.trans hcl)
        cases Option.some.inj (h2.symm.trans hc6)
        exact Or.inr ⟨hz0, _, hcl6, h3⟩) hx (Or.inr ⟨h0, c4, hcl5, hasg⟩)
  obtain ⟨t, a1, b1⟩ := kk (T.setVm vm') hT X'
  exact ⟨t, st.trans a1, b1⟩
end Rows
section Ends
variable {p : Program} {l : Launch} {e : Env} {R : Room} {s : State} {m : MethodId} {args : Array Value} {below : List Frame} {meth : Method} {c : Code} {H : Heap} {locs : List Loc} {cells slots : Nat} {Q : State → Prop}
variable {mc ms : Nat} {free : Addr → Prop} {A0 A1 : Nat → Prop} {H0 : Heap} {a : Array Value} {ls : Array Slot} {st0 rest : List Value}
variable {Qc : Array Value → State → Outcome → State → Prop} {XC : String → State → State → Prop}
/-- what a body that may throw owes at its end -/
def vx_MQ (below : List Frame) (Qc : Array Value → State → Outcome → State → Prop) (XC : String → State → State → Prop) (a : Array Value) (s : State) (mc ms : Nat) (free : Addr → Prop) : State → Prop := fun t =>
  ∃ o, t.status = .running ∧ Ended t below o ∧ vx_Q Qc XC mc ms free a s o t
theorem vx_ret {g : JFrame} {mc ms : Nat} (k : W p l e R s m args below meth c H locs cells slots (MQ below Qc args s mc ms free) g) : W p l e R s m args below meth c H locs cells slots (vx_MQ below Qc XC args s mc ms free) g := by
  intro T hT X
  obtain ⟨t, a1, o, b1, b2, b3, b4⟩ := k T hT X
  exact ⟨t, a1, o, b1, b2, Or.inl ⟨b3, b4⟩⟩
/-- not caught here: it goes on to the caller -/
theorem vx_widen {g : JFrame} {q : Addr} {k n : Nat} (h1 : cells ≤ k) (h2 : slots ≤ n) (kk : vx_W p l e R s m args below meth c H locs k n Q g q) : vx_W p l e R s m args below meth c H locs cells slots Q g q := fun T hT X => kk T hT (stand_widen X h1 h2)
theorem vx_out {pc : Nat} {E : String} {ce : Cell} {q : Addr} {mc ms : Nat} (hout : ∀ x ∈ c.exceptionTable.toList, covers x pc = false) (hlocks : meth.locks = false) (hcell : H[q]? = some ce) (hv : ce.vm = .none) (hcl : s.vm.findClass E = some ce.cls)
    (hx : ∀ t : State, t.heap = H → s.vm.Alike t.vm → XC E s t) (hf : ∀ z ∈ locs, free z.base) (hc : cells ≤ mc) (hs : slots ≤ ms) :
    vx_W p l e R s m args below meth c H locs cells slots (vx_MQ below Qc XC args s mc ms free) (F0 m pc ls rest) q := by
  intro T hT X
  obtain ⟨st1, hrun, hend, hW, hsm⟩ := X.leaveThrown q (g := F0 m pc ls rest) rfl rfl rfl hout hlocks
  have hcell9 : (T.setFrames (.throwing q :: below)).heap[q]? = some ce := by
    show T.heap[q]? = some ce
    rw [hT]; exact hcell
  exact ⟨_, st1, .threw q, hrun, hend, Or.inr ⟨q, rfl, E, ce, locs, hx _ hT hW.alike, hcell9, hv, hcl, hW, hsm.mono hc hs, hf⟩⟩
theorem vx_frame {U : State} {k n : Nat} (h : s.sameButNew ({ U with vm := s.vm } : State) locs k n) : s.heap.size ≤ U.heap.size ∧ ∀ q : Nat, q < s.heap.size → (∀ z ∈ locs, z.base ≠ q) → U.heap[q]? = s.heap[q]? := by
  obtain ⟨-, h2, -, -, -, h6⟩ := h
  refine ⟨h2, fun q hq hz => ?_⟩
  obtain ⟨c9, e1, e2, e3, e4⟩ := h6 q _ (Array.getElem?_eq_getElem hq)
  have hs : c9.slots = (s.heap[q]).slots := Array.ext_getElem? fun i => e4 i fun hm => hz _ hm rfl
  have h9 : c9 = s.heap[q] := by
    rw [hs] at e2
    exact e2
  have e5 : U.heap[q]? = some c9 := e1
  rw [e5, h9, Array.getElem?_eq_getElem hq]
/-- the words of a throw but the four that speak of the heap -/
def vx_no (w : Cond) : Bool := decide (w ≠ .isRef (.static Bundle.tN "UNASSIGNED_STACK" Bundle.steD)) && decide (w ≠ .isRef (.static Bundle.tN "SUPPRESSED_SENTINEL" Bundle.listD)) && decide (w ≠ .laysStatic Bundle.tN "UNASSIGNED_STACK" Bundle.steD) && decide (w ≠ .laysStatic Bundle.tN "SUPPRESSED_SENTINEL" Bundle.listD)
def vx_at0 (own : String) (ic : Nat) (X : String) (names : List String) : List Cond := (Bundle.ownAtoms0 own ic X names).filter vx_no
def vx_atS (own : String) (ic : Nat) (X : String) (names : List String) : List Cond := (Bundle.ownAtoms own ic X names).filter vx_no
/-- a word that the tables alone decide, or a good one -/
def vx_ot (w : Cond) : Bool := w.onTables || goodWord w
theorem vx_ot_at {args a' : Array Value} {s U : State} {w : Cond} (hW : s.WarmedH U.vm) (hvm : s.vm = U.vm) (hg : vx_ot w = true) (h : w.before args s = true) : w.before a' U = true := by
  simp only [vx_ot, Bool.or_eq_true] at hg
  rcases hg with hg | hg
  · exact va_tabs hg hvm h
  · exact word_at hW (good_of_word hg) h
/-- a list's words: the good ones out of the method's own list, the others by premises of their own -/
theorem vx_hat {args : Array Value} {s : State} {L B : List Cond} (h1 : ∀ w ∈ L.filter goodWord, w.before args s = true) (h2 : ∀ w ∈ L.filter (fun w => !goodWord w), w ∈ B) (h3 : ∀ w ∈ B, w.before args s = true) : ∀ w ∈ L, w.before args s = true := by
  intro w hw
  by_cases g : goodWord w = true
  · exact h1 w (List.mem_filter.mpr ⟨hw, g⟩)
  · refine h3 w (h2 w (List.mem_filter.mpr ⟨hw, ?_⟩))
    show (!goodWord w) = true
    cases hgw : goodWord w
    · rfl
    · exact absurd hgw g
theorem vx_c {args : Array Value} {s : State} {w : Cond} {B : List Cond} (h : w.before args s = true) (t : ∀ w ∈ B, w.before args s = true) : ∀ w' ∈ w :: B, w'.before args s = true := fun w' h' => (List.mem_cons.mp h').elim (fun e => by rw [e]; exact h) (t w')
theorem vx_n {args : Array Value} {s : State} : ∀ w ∈ ([] : List Cond), w.before args s = true := fun _ h => nomatch h
theorem vx_own {args : Array Value} {s : State} {L : List Cond} (h1 : ∀ w ∈ L.filter vx_no, w.before args s = true)
    (hU : (Cond.isRef (.static Bundle.tN "UNASSIGNED_STACK" Bundle.steD)).before args s = true) (hN : (Cond.isRef (.static Bundle.tN "SUPPRESSED_SENTINEL" Bundle.listD)).before args s = true)
    (lU : (Cond.laysStatic Bundle.tN "UNASSIGNED_STACK" Bundle.steD).before args s = true) (lN : (Cond.laysStatic Bundle.tN "SUPPRESSED_SENTINEL" Bundle.listD).before args s = true) : ∀ w ∈ L, w.before args s = true := by
  intro w hw
  by_cases e1 : w = .isRef (.static Bundle.tN "UNASSIGNED_STACK" Bundle.steD)
  · rw [e1]; exact hU
  · by_cases e2 : w = .isRef (.static Bundle.tN "SUPPRESSED_SENTINEL" Bundle.listD)
    · rw [e2]; exact hN
    · by_cases e3 : w = .laysStatic Bundle.tN "UNASSIGNED_STACK" Bundle.steD
      · rw [e3]; exact lU
      · by_cases e4 : w = .laysStatic Bundle.tN "SUPPRESSED_SENTINEL" Bundle.listD
        · rw [e4]; exact lN
        · exact h1 w (List.mem_filter.mpr ⟨hw, by unfold vx_no; rw [decide_eq_true e1, decide_eq_true e2, decide_eq_true e3, decide_eq_true e4]; rfl⟩)
/-- where a static field lies, its class's statics cell in H -/
def vx_L (C n d : String) (A : Nat → Prop) (U : State) (H : Heap) : Prop := ∃ (c : ClassId) (k : Class) (i : Nat) (f : Field) (a : Nat) (cell : Cell), U.vm.findClass C = some c ∧ U.fieldFound? C n d = some (c, k, i, f) ∧ f.isStatic = true ∧ k.statics = some a ∧ H[a]? = some cell ∧ cell.vm.isStatics = true ∧ cell.cls = c ∧ f.slot < cell.slots.size ∧ k.staticTypes[f.slot]? = some f.type ∧ ¬ A a
theorem vx_L.moved {C n d : String} {A : Nat → Prop} {u U : State} {H : Heap} (hvm : u.vm.Alike U.vm) (h : vx_L C n d A u H) : vx_L C n d A U H := by
  obtain ⟨c, k, i, f, a, cell, h1, h2, h3, h4, h5, h6, h7, h8, h9, h10⟩ := h
  obtain ⟨k', hi', he⟩ := State.fieldFound?_setVm hvm h2
  exact ⟨c, k', i, f, a, cell, by rw [hvm.findClass]; exact h1, hi', h3, by rw [he]; exact h4, h5, h6, h7, h8, by rw [he]; exact h9, h10⟩
theorem vx_L.kept {C n d : String} {A : Nat → Prop} {U : State} {H H1 : Heap} (h : vx_L C n d A U H) (hq : ∀ a : Nat, a < H.size → ¬ A a → H1[a]? = H[a]?) : vx_L C n d A U H1 := by
  obtain ⟨c, k, i, f, a, cell, h1, h2, h3, h4, h5, h6, h7, h8, h9, h10⟩ := h
  exact ⟨c, k, i, f, a, cell, h1, h2, h3, h4, by rw [hq a (Array.getElem?_eq_some_iff.mp h5).1 h10]; exact h5, h6, h7, h8, h9, h10⟩
theorem vx_L.narrow {C n d : String} {A B : Nat → Prop} {U : State} {H : Heap} (h : vx_L C n d A U H) (hAB : ∀ q, B q → A q) : vx_L C n d B U H := by
  obtain ⟨c, k, i, f, a, cell, h1, h2, h3, h4, h5, h6, h7, h8, h9, h10⟩ := h
  exact ⟨c, k, i, f, a, cell, h1, h2, h3, h4, h5, h6, h7, h8, h9, fun z => h10 (hAB _ z)⟩
theorem vx_L.word {C n d : String} {A : Nat → Prop} {s : State} {args : Array Value} (h : vx_L C n d A s s.heap) : (Cond.laysStatic C n d).before args s = true := by
  obtain ⟨c, k, i, f, a, cell, h1, h2, h3, h4, h5, h6, h7, h8, h9, -⟩ := h
  show (Cond.laysStatic C n d).holds args s none s [] = true
  exact Cond.laysStatic_of h1 h2 h3 h4 h5 h6 h7 h8 h9
/-- .. and what it holds: null or some reference -/
def vx_Zq (C n d : String) (A : Nat → Prop) (U : State) (H : Heap) : Prop := va_Zq C n d A U H ∧ vx_L C n d A U H
theorem vx_Zq.moved {C n d : String} {A : Nat → Prop} {u U : State} {H : Heap} (hvm : u.vm.Alike U.vm) (h : vx_Zq C n d A u H) : vx_Zq C n d A U H := ⟨va_Zq.moved hvm h.1, vx_L.moved hvm h.2⟩
theorem vx_Zq.kept {C n d : String} {A : Nat → Prop} {U : State} {H H1 : Heap} (h : vx_Zq C n d A U H) (hq : ∀ a : Nat, a < H.size → ¬ A a → H1[a]? = H[a]?) : vx_Zq C n d A U H1 := ⟨va_Zq.kept h.1 hq, vx_L.kept h.2 hq⟩
theorem vx_Zq.narrow {C n d : String} {A B : Nat → Prop} {U : State} {H : Heap} (h : vx_Zq C n d A U H) (hAB : ∀ q, B q → A q) : vx_Zq C n d B U H := ⟨va_Zq.narrow h.1 hAB, vx_L.narrow h.2 hAB⟩
theorem vx_Zqof {args : Array Value} {s : State} {C n d : String} {A : Nat → Prop} (hl : (Cond.laysStatic C n d).before args s = true) (hini : (Cond.initialized C).before args s = true) (h : (Cond.isRef (.static C n d)).before args s = true) (hA : ∀ a : Nat, a < s.heap.size → ¬ A a) : vx_Zq C n d A s s.heap := by
  refine ⟨va_Zqof hl hini h hA, ?_⟩
  obtain ⟨c, k, i, f, a, cell, h1, h2, h3, h4, h5, h6, h7, h8, h9⟩ := Cond.laysStatic_spec hl
  exact ⟨c, k, i, f, a, cell, h1, h2, h3, h4, h5, h6, h7, h8, h9, hA a (Array.getElem?_eq_some_iff.mp h5).1⟩
theorem vx_isRef {C n d : String} {v : Value} {A : Nat → Prop} {s : State} {args : Array Value} (h : va_Z C n d v A s s.heap) (hv : v.isRef = true) : (Cond.isRef (.static C n d)).before args s = true := by
  obtain ⟨cf, kf, fi, f, a, cell, h1, h2, h3, h4, h5, h6, h7, -⟩ := h
  have he : (Term.static C n d).eval args s none [] s = some v := by
    simp [Term.eval, State.fieldNamed?, h1, h2, h4, h5, h6, h7]
  simp only [Cond.before, Cond.holds, Cond.value, he]
  cases v <;> simp_all [Value.isRef]
theorem vx_isRefq {C n d : String} {A : Nat → Prop} {s : State} {args : Array Value} (h : va_Zq C n d A s s.heap) : (Cond.isRef (.static C n d)).before args s = true := by
  rcases h with h | ⟨t, h⟩
  · exact vx_isRef h rfl
  · exact vx_isRef h rfl
/-- the same frame, seen from here: as if the method were called anew in this heap -/
theorem vx_rebase {T : State} (X : Stand p l e R s m args below meth c T locs cells slots) {R' : Room} (hf : R'.frames ≤ R.frames) (hl : R'.locals ≤ R.locals) (hc : cells + R'.cells ≤ R.cells) (hs : slots + R'.slots ≤ R.slots) :
    Stand p l e R' ((T.setVm s.vm).setFrames (.invoking m args :: below)) m args below meth c T [] 0 0 := by
  have htop : (T.setVm s.vm).topJava?.isSome := X.here.top
  have hF : ((T.setVm s.vm).setFrames (.invoking m args :: below)).frames = .invoking m args :: below := State.frames_setFrames _ (State.cur_lt_of_top htop)
  obtain ⟨g₀, hg0⟩ := Option.isSome_iff_exists.mp htop
  obtain ⟨r, hr⟩ := State.topJava?_eq_some.mp hg0
  have hl9 : e.platform.stackLimits (T.setVm s.vm).me = e.platform.stackLimits s.me := X.limits
  have hb9 : (T.setVm s.vm).me.stackBytes = s.me.stackBytes := X.bytes
  refine ⟨X.admits, X.cas, X.clock, hF, ?_, X.hears, X.method, X.code, X.here, X.tail, X.warmed, ?_, ?_, ?_⟩
  · have h := X.room
    have hU : ((T.setVm s.vm).setFrames (.invoking m args :: below)).localsInUse = s.localsInUse := by
      rw [State.localsInUse_invoking hF (meth := meth) (c := c) X.method X.code, State.localsInUse_invoking X.frames X.method X.code]
    simp only [State.hasRoom, Bool.and_eq_true, decide_eq_true_eq] at h ⊢
    obtain ⟨⟨⟨⟨h1, h2, h3, h4, h5, h6⟩, h7⟩, h8⟩, h9⟩ := h
    rw [X.frames, List.length_cons] at h2 h3
    have q1 := X.heapSize
    have q2 := X.used
    simp only [hF, hU, List.length_cons, State.stackLimits_setFrames, State.stackBytes_setFrames, hl9, hb9]
    refine ⟨⟨⟨⟨by omega, by omega, by omega, by omega, by omega, h6⟩, ?_⟩, ?_⟩, X.book⟩
    · show T.heap.size + R'.cells ≤ e.platform.maxCells
      omega
    · show T.slotsUsed + R'.slots ≤ e.platform.maxSlots
      omega
  · rw [State.stackLimits_setFrames]; rfl
  · rw [State.stackBytes_setFrames]; rfl
  · refine ⟨?_, Nat.le_refl _, Nat.le_refl _, ?_, ?_, fun a c9 h9 => ⟨c9, h9, rfl, rfl, fun _ _ => rfl⟩⟩
    · obtain ⟨t, ht, -⟩ := State.frames_cons hr
      show T.setVm s.vm = { ((T.setVm s.vm).setFrames (.invoking m args :: below)).setFrames (T.setVm s.vm).frames with heap := T.heap, slotsUsed := T.slotsUsed }
      rw [State.setFrames_setFrames, State.setFrames_self ht]
      rfl
    · show T.slotsUsed = T.slotsUsed + ((T.heap.toList.drop T.heap.size).map (·.slots.size)).sum
      rw [List.drop_eq_nil_of_le (Nat.le_of_eq Array.length_toList)]
      rfl
    · show ((T.heap.toList.drop T.heap.size).map (·.slots.size)).sum ≤ 0
      rw [List.drop_eq_nil_of_le (Nat.le_of_eq Array.length_toList)]
      exact Nat.le_refl _
/-- 'throw new E()': new; dup; invokespecial; athrow -/
theorem vx_throw0 {cc : ByteArray} {pc : Nat} (hexec : p.tables.exec = Jvm.exec) (hb : c.code = cc) (hl : l.stackTraces = false) {own cls : String} {names : List String} {ik ic mc ms : Nat} {A : Nat → Prop}
    (hown : s.vm.findClass own = some m.cls) (hcls : Bundle.fit cls = true) (hnames : ∀ n ∈ names, Bundle.fit n = true)
    (hk : (Cond.classLink own ik cls).before args s = true) (hini : (Cond.initialized cls).before args s = true) (hat : ∀ w ∈ vx_at0 own ic cls names, w.before args s = true)
    (hgood : ∀ w ∈ Cond.classLink own ik cls :: Cond.initialized cls :: vx_at0 own ic cls names, vx_ot w = true)
    (hU : vx_Zq Bundle.tN "UNASSIGNED_STACK" Bundle.steD A s s.heap) (hN : vx_Zq Bundle.tN "SUPPRESSED_SENTINEL" Bundle.listD A s s.heap) (hS : va_S A s.heap H locs) (hsize : ls.size = c.maxLocals)
    (d0 : decode cc pc = .ok (.new ik, 3)) (d3 : decode cc (pc + 3) = .ok (.dup, 1)) (d4 : decode cc (pc + 4) = .ok (.invokespecial ic, 3)) (d7 : decode cc (pc + 7) = .ok (.athrow, 1))
    (hout : ∀ x ∈ c.exceptionTable.toList, covers x (pc + 7) = false)
    (hRframes : names.length + 3 < R.frames) (hRlocals : (rest.map fun v => v.category).sum + (13 * (names.length + 1) + 42) ≤ R.locals) (hRcells : cells + 1 ≤ R.cells) (hRslots : slots + 6 ≤ R.slots) (hlocks : meth.locks = false)
    (hx : ∀ t : State, s.vm.Alike t.vm → H.size ≤ t.heap.size → (∀ q : Nat, q < H.size → t.heap[q]? = H[q]?) → XC cls s t)
    (hf : ∀ z ∈ locs, free z.base) (hc : cells + 1 ≤ mc) (hs : slots + 6 ≤ ms) :
    W p l e R s m args below meth c H locs cells slots (vx_MQ below Qc XC args s mc ms free) (F0 m pc ls rest) := by
  intro T hT X
  have htr : e.platform.stackTraces = false := (show e.platform.stackTraces = l.stackTraces by rw [X.admits.platform]).trans hl
  have Y := vx_rebase X (R' := { frames := R.frames, locals := R.locals, cells := 1, slots := 6 }) (Nat.le_refl _) (Nat.le_refl _) hRcells hRslots
  obtain ⟨s', hA⟩ : ∃ z, z = (T.setVm s.vm).setFrames (.invoking m args :: below) := ⟨_, rfl⟩
  rw [← hA] at Y
  have hvm : s'.vm = s.vm := by rw [hA]; rfl
  have hhp : s'.heap = H := by rw [hA]; exact hT
  have hW0 : s.WarmedH s'.vm := by rw [hvm]; exact State.WarmedH.refl s
  have hat' : ∀ w ∈ vx_at0 own ic cls names, w.before args s' = true := fun w hw => vx_ot_at hW0 hvm.symm (hgood w (List.mem_cons_of_mem _ (List.mem_cons_of_mem _ hw))) (hat w hw)
  have hk' : (Cond.classLink own ik cls).before args s' = true := vx_ot_at hW0 hvm.symm (hgood _ List.mem_cons_self) hk
  have hini' : (Cond.initialized cls).before args s' = true := vx_ot_at hW0 hvm.symm (hgood _ (List.mem_cons_of_mem _ List.mem_cons_self)) hini
  have hU' : vx_Zq Bundle.tN "UNASSIGNED_STACK" Bundle.steD A s' s'.heap := by rw [hhp]; exact vx_Zq.moved hW0.alike (hU.kept hS.2.1)
  have hN' : vx_Zq Bundle.tN "SUPPRESSED_SENTINEL" Bundle.listD A s' s'.heap := by rw [hhp]; exact vx_Zq.moved hW0.alike (hN.kept hS.2.1)
  have h : ∀ w ∈ Bundle.ownAtoms0 own ic cls names, w.before args s' = true := vx_own hat' (vx_isRefq hU'.1) (vx_isRefq hN'.1) hU'.2.word hN'.2.word
  have hown' : s'.vm.findClass own = some m.cls := by rw [hvm]; exact hown
  have hins : (Cond.instantiable cls 6).before args s' = true := h _ (by simp [Bundle.ownAtoms0])
  obtain ⟨vm₁, cX, kX, hfX, hkX, -, -, X₁, st1⟩ := Y.newCold hexec (own := own) (C := cls) (index := ik) (n := 6) hown' hk' hins hini'
    (g := F0 m pc ls rest) rfl (by rw [hb]; exact d0) (Nat.le_refl _) (Nat.le_refl _)
  generalize hT1 : (T.setVm vm₁).pushCell { cls := cX, slots := kX.instanceTypes.map defaultValue, vm := .none } = T1 at X₁ st1
  have hcat : (Value.ref T.heap.size).category = 1 := rfl
  have hcellA : T1.heap[T.heap.size]? = some (freshCell cX kX) := by rw [← hT1]; exact State.heap_pushCell_size _ _
  have d3' : decode c.code (pc + 3) = .ok (.dup, 1) := by rw [hb]; exact d3
  obtain ⟨U, hsteps, hrun, hend, hW, hsame, ce, hce, hO⟩ := X₁.ctorThrow0 hexec htr (own := own) (cls := cls) (names := names) (ic := ic) hown' hcls hnames h (fun x hx => nomatch hx) hfX hkX hcellA (by rw [hhp, hT]; exact Nat.le_refl _)
    (g := { method := m, pc := pc + 4, locals := ls, stack := .ref T.heap.size :: .ref T.heap.size :: rest, locked := none }) rfl hsize rfl rfl (rest := rest) rfl
    (by rw [hb]; exact d4) (by rw [hb]; exact d7) hout hRframes (by simp only [List.map_cons, List.sum_cons, hcat]; omega) hlocks
  obtain ⟨f1, f2⟩ := vx_frame hsame
  rw [hhp] at f1 f2
  have hWs : s.WarmedH U.vm := State.WarmedH.trans hW0 hW
  have hcl : s.vm.findClass cls = some ce.cls := by
    have h9 := hO.cls
    rw [hvm] at h9
    exact h9
  have hall : s.sameButNew ({ U with vm := s.vm } : State) locs mc ms := by
    subst hA
    obtain ⟨e1, e2⟩ := hsame
    rw [State.setFrames_setFrames] at e1
    have h2 : (T.setVm s.vm).sameButNew ({ U with vm := s.vm } : State) [] (0 + 1) (0 + 6) := ⟨e1, e2⟩
    have h3 := X.same.trans h2
    rw [List.append_nil] at h3
    exact h3.mono hc hs
  refine ⟨U, ?_, .threw T.heap.size, hrun, hend, Or.inr ⟨T.heap.size, rfl, cls, ce, locs, hx U hWs.alike f1 (fun q hq => f2 q hq (fun z hz => nomatch hz)), hce, hO.vm, hcl, hWs, hall, hf⟩⟩
  refine st1 _ ?_
  show Steps p.tables e below (T1.setTop { method := m, pc := pc + 3, locals := ls, stack := .ref T.heap.size :: rest, locked := none }) _
  jvm_step X₁.here [X₁.here.top, hexec, d3', Value.category]
  exact hsteps
/-- 'throw new E("text")': new; dup; ldc; invokespecial; athrow -/
theorem vx_throwS {cc : ByteArray} {pc : Nat} (hexec : p.tables.exec = Jvm.exec) (hb : c.code = cc) (hl : l.stackTraces = false) {own cls text : String} {names : List String} {ik is ic mc ms sa : Nat} {A : Nat → Prop}
    (hown : s.vm.findClass own = some m.cls) (hcls : Bundle.fit cls = true) (hnames : ∀ n ∈ names, Bundle.fit n = true)
    (hk : (Cond.classLink own ik cls).before args s = true) (hini : (Cond.initialized cls).before args s = true) (hstr : vk_R own is text sa s) (hat : ∀ w ∈ vx_atS own ic cls names, w.before args s = true)
    (hgood : ∀ w ∈ Cond.classLink own ik cls :: Cond.initialized cls :: vx_atS own ic cls names, vx_ot w = true)
    (hU : vx_Zq Bundle.tN "UNASSIGNED_STACK" Bundle.steD A s s.heap) (hN : vx_Zq Bundle.tN "SUPPRESSED_SENTINEL" Bundle.listD A s s.heap) (hS : va_S A s.heap H locs) (hsize : ls.size = c.maxLocals)
    (d0 : decode cc pc = .ok (.new ik, 3)) (d3 : decode cc (pc + 3) = .ok (.dup, 1)) (d4 : decode cc (pc + 4) = .ok (.ldc is, 2)) (d6 : decode cc (pc + 6) = .ok (.invokespecial ic, 3)) (d9 : decode cc (pc + 9) = .ok (.athrow, 1))
    (hout : ∀ x ∈ c.exceptionTable.toList, covers x (pc + 9) = false)
    (hRframes : names.length + 3 < R.frames) (hRlocals : (rest.map fun v => v.category).sum + (13 * (names.length + 1) + 43) ≤ R.locals) (hRcells : cells + 1 ≤ R.cells) (hRslots : slots + 6 ≤ R.slots) (hlocks : meth.locks = false)
    (hx : ∀ t : State, s.vm.Alike t.vm → H.size ≤ t.heap.size → (∀ q : Nat, q < H.size → t.heap[q]? = H[q]?) → XC cls s t)
    (hf : ∀ z ∈ locs, free z.base) (hc : cells + 1 ≤ mc) (hs : slots + 6 ≤ ms) :
    W p l e R s m args below meth c H locs cells slots (vx_MQ below Qc XC args s mc ms free) (F0 m pc ls rest) := by
  intro T hT X
  have htr : e.platform.stackTraces = false := (show e.platform.stackTraces = l.stackTraces by rw [X.admits.platform]).trans hl
  have Y := vx_rebase X (R' := { frames := R.frames, locals := R.locals, cells := 1, slots := 6 }) (Nat.le_refl _) (Nat.le_refl _) hRcells hRslots
  obtain ⟨s', hA⟩ : ∃ z, z = (T.setVm s.vm).setFrames (.invoking m args :: below) := ⟨_, rfl⟩
  rw [← hA] at Y
  have hvm : s'.vm = s.vm := by rw [hA]; rfl
  have hhp : s'.heap = H := by rw [hA]; exact hT
  have hW0 : s.WarmedH s'.vm := by rw [hvm]; exact State.WarmedH.refl s
  have hat' : ∀ w ∈ vx_atS own ic cls names, w.before args s' = true := fun w hw => vx_ot_at hW0 hvm.symm (hgood w (List.mem_cons_of_mem _ (List.mem_cons_of_mem _ hw))) (hat w hw)
  have hk' : (Cond.classLink own ik cls).before args s' = true := vx_ot_at hW0 hvm.symm (hgood _ List.mem_cons_self) hk
  have hini' : (Cond.initialized cls).before args s' = true := vx_ot_at hW0 hvm.symm (hgood _ (List.mem_cons_of_mem _ List.mem_cons_self)) hini
  have hU' : vx_Zq Bundle.tN "UNASSIGNED_STACK" Bundle.steD A s' s'.heap := by rw [hhp]; exact vx_Zq.moved hW0.alike (hU.kept hS.2.1)
  have hN' : vx_Zq Bundle.tN "SUPPRESSED_SENTINEL" Bundle.listD A s' s'.heap := by rw [hhp]; exact vx_Zq.moved hW0.alike (hN.kept hS.2.1)
  have h : ∀ w ∈ Bundle.ownAtoms own ic cls names, w.before args s' = true := vx_own hat' (vx_isRefq hU'.1) (vx_isRefq hN'.1) hU'.2.word hN'.2.word
  have hown' : s'.vm.findClass own = some m.cls := by rw [hvm]; exact hown
  have hins : (Cond.instantiable cls 6).before args s' = true := h _ (by simp [Bundle.ownAtoms])
  obtain ⟨vm₁, cX, kX, hfX, hkX, -, -, X₁, st1⟩ := Y.newCold hexec (own := own) (C := cls) (index := ik) (n := 6) hown' hk' hins hini'
    (g := F0 m pc ls rest) rfl (by rw [hb]; exact d0) (Nat.le_refl _) (Nat.le_refl _)
  generalize hT1 : (T.setVm vm₁).pushCell { cls := cX, slots := kX.instanceTypes.map defaultValue, vm := .none } = T1 at X₁ st1
  have hcat : (Value.ref T.heap.size).category = 1 := rfl
  have hcellA : T1.heap[T.heap.size]? = some (freshCell cX kX) := by rw [← hT1]; exact State.heap_pushCell_size _ _
  have d3' : decode c.code (pc + 3) = .ok (.dup, 1) := by rw [hb]; exact d3
  have d4' : decode c.code (pc + 4) = .ok (.ldc is, 2) := by rw [hb]; exact d4
  have hstr' : vk_R own is text sa s' := vk_R.warm hW0 hstr
  obtain ⟨U, hsteps, hrun, hend, hW, hsame, ce, hce, hO⟩ := X₁.ctorThrowS hexec htr (own := own) (cls := cls) (names := names) (ic := ic) hown' hcls hnames h (fun x hx => nomatch hx) hfX hkX hcellA (by rw [hhp, hT]; exact Nat.le_refl _) (msg := .ref sa) rfl
    (g := { method := m, pc := pc + 6, locals := ls, stack := .ref sa :: .ref T.heap.size :: .ref T.heap.size :: rest, locked := none }) rfl hsize rfl rfl (rest := rest) rfl
    (by rw [hb]; exact d6) (by rw [hb]; exact d9) hout hRframes (by simp only [List.map_cons, List.sum_cons, hcat]; omega) hlocks
  obtain ⟨f1, f2⟩ := vx_frame hsame
  rw [hhp] at f1 f2
  have hWs : s.WarmedH U.vm := State.WarmedH.trans hW0 hW
  have hcl : s.vm.findClass cls = some ce.cls := by
    have h9 := hO.cls
    rw [hvm] at h9
    exact h9
  have hall : s.sameButNew ({ U with vm := s.vm } : State) locs mc ms := by
    subst hA
    obtain ⟨e1, e2⟩ := hsame
    rw [State.setFrames_setFrames] at e1
    have h2 : (T.setVm s.vm).sameButNew ({ U with vm := s.vm } : State) [] (0 + 1) (0 + 6) := ⟨e1, e2⟩
    have h3 := X.same.trans h2
    rw [List.append_nil] at h3
    exact h3.mono hc hs
  refine ⟨U, ?_, .threw T.heap.size, hrun, hend, Or.inr ⟨T.heap.size, rfl, cls, ce, locs, hx U hWs.alike f1 (fun q hq => f2 q hq (fun z hz => nomatch hz)), hce, hO.vm, hcl, hWs, hall, hf⟩⟩
  refine st1 _ ?_
  show Steps p.tables e below (T1.setTop { method := m, pc := pc + 3, locals := ls, stack := .ref T.heap.size :: rest, locked := none }) _
  jvm_step X₁.here [X₁.here.top, hexec, d3', Value.category]
  exact X₁.ldcString hexec (own := own) (text := text) (index := is) (a := sa) hown' hstr'.1 hstr'.2
    (g := { method := m, pc := pc + 4, locals := ls, stack := .ref T.heap.size :: .ref T.heap.size :: rest, locked := none }) rfl d4' _ hsteps
/-- 'throw new E("text")', the text by a wide index -/
theorem vx_throwSW {cc : ByteArray} {pc : Nat} (hexec : p.tables.exec = Jvm.exec) (hb : c.code = cc) (hl : l.stackTraces = false) {own cls text : String} {names : List String} {ik is ic mc ms sa : Nat} {A : Nat → Prop}
    (hown : s.vm.findClass own = some m.cls) (hcls : Bundle.fit cls = true) (hnames : ∀ n ∈ names, Bundle.fit n = true)
    (hk : (Cond.classLink own ik cls).before args s = true) (hini : (Cond.initialized cls).before args s = true) (hstr : vk_R own is text sa s) (hat : ∀ w ∈ vx_atS own ic cls names, w.before args s = true)
    (hgood : ∀ w ∈ Cond.classLink own ik cls :: Cond.initialized cls :: vx_atS own ic cls names, vx_ot w = true)
    (hU : vx_Zq Bundle.tN "UNASSIGNED_STACK" Bundle.steD A s s.heap) (hN : vx_Zq Bundle.tN "SUPPRESSED_SENTINEL" Bundle.listD A s s.heap) (hS : va_S A s.heap H locs) (hsize : ls.size = c.maxLocals)
    (d0 : decode cc pc = .ok (.new ik, 3)) (d3 : decode cc (pc + 3) = .ok (.dup, 1)) (d4 : decode cc (pc + 4) = .ok (.ldc_w is, 3)) (d7 : decode cc (pc + 7) = .ok (.invokespecial ic, 3)) (d10 : decode cc (pc + 10) = .ok (.athrow, 1))
    (hout : ∀ x ∈ c.exceptionTable.toList, covers x (pc + 10) = false)
    (hRframes : names.length + 3 < R.frames) (hRlocals : (rest.map fun v => v.category).sum + (13 * (names.length + 1) + 43) ≤ R.locals) (hRcells : cells + 1 ≤ R.cells) (hRslots : slots + 6 ≤ R.slots) (hlocks : meth.locks = false)
    (hx : ∀ t : State, s.vm.Alike t.vm → H.size ≤ t.heap.size → (∀ q : Nat, q < H.size → t.heap[q]? = H[q]?) → XC cls s t)
    (hf : ∀ z ∈ locs, free z.base) (hc : cells + 1 ≤ mc) (hs : slots + 6 ≤ ms) :
    W p l e R s m args below meth c H locs cells slots (vx_MQ below Qc XC args s mc ms free) (F0 m pc ls rest) := by
  intro T hT X
  have htr : e.platform.stackTraces = false := (show e.platform.stackTraces = l.stackTraces by rw [X.admits.platform]).trans hl
  have Y := vx_rebase X (R' := { frames := R.frames, locals := R.locals, cells := 1, slots := 6 }) (Nat.le_refl _) (Nat.le_refl _) hRcells hRslots
  obtain ⟨s', hA⟩ : ∃ z, z = (T.setVm s.vm).setFrames (.invoking m args :: below) := ⟨_, rfl⟩
  rw [← hA] at Y
  have hvm : s'.vm = s.vm := by rw [hA]; rfl
  have hhp : s'.heap = H := by rw [hA]; exact hT
  have hW0 : s.WarmedH s'.vm := by rw [hvm]; exact State.WarmedH.refl s
  have hat' : ∀ w ∈ vx_atS own ic cls names, w.before args s' = true := fun w hw => vx_ot_at hW0 hvm.symm (hgood w (List.mem_cons_of_mem _ (List.mem_cons_of_mem _ hw))) (hat w hw)
  have hk' : (Cond.classLink own ik cls).before args s' = true := vx_ot_at hW0 hvm.symm (hgood _ List.mem_cons_self) hk
  have hini' : (Cond.initialized cls).before args s' = true := vx_ot_at hW0 hvm.symm (hgood _ (List.mem_cons_of_mem _ List.mem_cons_self)) hini
  have hU' : vx_Zq Bundle.tN "UNASSIGNED_STACK" Bundle.steD A s' s'.heap := by rw [hhp]; exact vx_Zq.moved hW0.alike (hU.kept hS.2.1)
  have hN' : vx_Zq Bundle.tN "SUPPRESSED_SENTINEL" Bundle.listD A s' s'.heap := by rw [hhp]; exact vx_Zq.moved hW0.alike (hN.kept hS.2.1)
  have h : ∀ w ∈ Bundle.ownAtoms own ic cls names, w.before args s' = true := vx_own hat' (vx_isRefq hU'.1) (vx_isRefq hN'.1) hU'.2.word hN'.2.word
  have hown' : s'.vm.findClass own = some m.cls := by rw [hvm]; exact hown
  have hins : (Cond.instantiable cls 6).before args s' = true := h _ (by simp [Bundle.ownAtoms])
  obtain ⟨vm₁, cX, kX, hfX, hkX, -, -, X₁, st1⟩ := Y.newCold hexec (own := own) (C := cls) (index := ik) (n := 6) hown' hk' hins hini'
    (g := F0 m pc ls rest) rfl (by rw [hb]; exact d0) (Nat.le_refl _) (Nat.le_refl _)
  generalize hT1 : (T.setVm vm₁).pushCell { cls := cX, slots := kX.instanceTypes.map defaultValue, vm := .none } = T1 at X₁ st1
  have hcat : (Value.ref T.heap.size).category = 1 := rfl
  have hcellA : T1.heap[T.heap.size]? = some (freshCell cX kX) := by rw [← hT1]; exact State.heap_pushCell_size _ _
  have d3' : decode c.code (pc + 3) = .ok (.dup, 1) := by rw [hb]; exact d3
  have d4' : decode c.code (pc + 4) = .ok (.ldc_w is, 3) := by rw [hb]; exact d4
  have hstr' : vk_R own is text sa s' := vk_R.warm hW0 hstr
  obtain ⟨U, hsteps, hrun, hend, hW, hsame, ce, hce, hO⟩ := X₁.ctorThrowS hexec htr (own := own) (cls := cls) (names := names) (ic := ic) hown' hcls hnames h (fun x hx => nomatch hx) hfX hkX hcellA (by rw [hhp, hT]; exact Nat.le_refl _) (msg := .ref sa) rfl
    (g := { method := m, pc := pc + 7, locals := ls, stack := .ref sa :: .ref T.heap.size :: .ref T.heap.size :: rest, locked := none }) rfl hsize rfl rfl (rest := rest) rfl
    (by rw [hb]; exact d7) (by rw [hb]; exact d10) hout hRframes (by simp only [List.map_cons, List.sum_cons, hcat]; omega) hlocks
  obtain ⟨f1, f2⟩ := vx_frame hsame
  rw [hhp] at f1 f2
  have hWs : s.WarmedH U.vm := State.WarmedH.trans hW0 hW
  have hcl : s.vm.findClass cls = some ce.cls := by
    have h9 := hO.cls
    rw [hvm] at h9
    exact h9
  have hall : s.sameButNew ({ U with vm := s.vm } : State) locs mc ms := by
    subst hA
    obtain ⟨e1, e2⟩ := hsame
    rw [State.setFrames_setFrames] at e1
    have h2 : (T.setVm s.vm).sameButNew ({ U with vm := s.vm } : State) [] (0 + 1) (0 + 6) := ⟨e1, e2⟩
    have h3 := X.same.trans h2
    rw [List.append_nil] at h3
    exact h3.mono hc hs
  refine ⟨U, ?_, .threw T.heap.size, hrun, hend, Or.inr ⟨T.heap.size, rfl, cls, ce, locs, hx U hWs.alike f1 (fun q hq => f2 q hq (fun z hz => nomatch hz)), hce, hO.vm, hcl, hWs, hall, hf⟩⟩
  refine st1 _ ?_
  show Steps p.tables e below (T1.setTop { method := m, pc := pc + 3, locals := ls, stack := .ref T.heap.size :: rest, locked := none }) _
  jvm_step X₁.here [X₁.here.top, hexec, d3', Value.category]
  exact X₁.ldcStringW hexec (own := own) (text := text) (index := is) (a := sa) hown' hstr'.1 hstr'.2
    (g := { method := m, pc := pc + 4, locals := ls, stack := .ref T.heap.size :: .ref T.heap.size :: rest, locked := none }) rfl d4' _ hsteps
end Ends
section Bodies
variable {l : Launch}
theorem vx_ofW {y : MethodName} {ws ws' : List Cond} {rm : Room} {Pc : Array Value → State → Prop} {Qc : Array Value → State → Outcome → State → Prop} {XC : String → State → State → Prop} {mc ms : Nat} {free : Addr → Prop} {cc : ByteArray} {maxL : Nat} {ret : Option FieldType}
    (hy : plainName y.cls = true) (hw : ws = Cond.code y cc maxL ret :: ws')
    (body : ∀ p e s m args below meth c s₁, BodyLoose p l y (headSpec ws rm) cc maxL ret e s m args below meth c s₁ → c.maxLocals = maxL → (∀ x ∈ c.exceptionTable.toList, False) → Pc args s →
      W p l e (headSpec ws rm).room s m args below meth c s.heap [] 0 0 (vx_MQ below Qc XC args s mc ms free) (entryFrame m args maxL)) : vx_Met l y ws rm Pc Qc XC mc ms free := by
  refine MetFree.of_bodyS (code := cc) (maxLocals := maxL) (ret := ret) hy ?_ ?_
  · intro args s m h hn
    obtain ⟨meth, c, h1, h2, h3, h4, h5, h6, -, -⟩ := Cond.code_spec hn (atoms_spec (ws := ws) h _ (by rw [hw]; exact List.mem_cons_self))
    exact ⟨meth, c, h1, h2, h3, h4, h5, h6⟩
  · intro p e s m args below meth c s₁ B hml hP _
    have hh0 : s₁.heap = s.heap := by rw [B.state]; rfl
    have ht : ∀ x ∈ c.exceptionTable.toList, False := by
      obtain ⟨meth9, c9, h1, h2, -, -, -, -, h7, -⟩ := Cond.code_spec B.named (atoms_spec (ws := ws) B.pre _ (by rw [hw]; exact List.mem_cons_self))
      cases Option.some.inj (h1.symm.trans B.method)
      cases Option.some.inj (h2.symm.trans (Stand.of_body B).code)
      intro x hx
      rw [Array.isEmpty_iff.mp h7] at hx
      cases hx
    obtain ⟨t, a1, o, b1, b2, b3⟩ := body p e s m args below meth c s₁ B hml ht hP s₁ hh0 (Stand.of_body B)
    exact ⟨t, o, a1, b1, b2, b3⟩
/-- the table of a body with handlers -/
theorem vx_table {p : Program} {x y : MethodName} {S : Spec} {cc bytes : ByteArray} {maxL maxL' : Nat} {ret ret' : Option FieldType} {e : Env} {s s₁ : State} {m : MethodId} {args : Array Value} {below : List Frame} {meth : Method} {c : Code} {hh : List (Nat × Nat × Nat × Nat)}
    (B : BodyLoose p l y S cc maxL ret e s m args below meth c s₁) (h : (Cond.codeWith y bytes maxL' ret' hh).before args s = true) : c.exceptionTable.toList = tableOf hh := by
  obtain ⟨m9, meth9, c9, hn9, h1, h2, -, -, h6, -⟩ := Cond.codeWith_spec h
  cases Option.some.inj (hn9.symm.trans B.named)
  cases Option.some.inj (h1.symm.trans B.method)
  cases Option.some.inj (h2.symm.trans (Stand.of_body B).code)
  rw [← h6, table_eq]
end Bodies
end VXA
/-! ===== END ===== -/
/-! ===== BEGIN a static call of a method with an exception table ===== -/
section VXS
variable {p : Program} {l : Launch} {e : Env} {R : Room} {s : State} {m : MethodId} {args : Array Value} {below : List Frame} {meth : Method} {c : Code} {T : State} {H : Heap} {locs : List Loc} {cells slots : Nat}
abbrev vx_CSW (R : Room) (s : State) (args : Array Value) (own : String) (index : Nat) (y : MethodName) (bytes : ByteArray) (maxL : Nat) (ret : Option FieldType) (hh : List (Nat × Nat × Nat × Nat)) (ws : List Cond) (rm : Room) (mc ms n : Nat) : Prop :=
  (rm.cells = mc ∧ rm.slots = ms ∧ rm.frames + 1 ≤ R.frames ∧ 8 + (maxL + 11) + rm.locals ≤ R.locals ∧ (∀ w ∈ ws, ∀ (a' : Array Value) (U : State), s.WarmedH U.vm → w.before a' U = true) ∧ Cond.codeWith y bytes maxL ret hh ∈ ws) ∧
  (Cond.codeWith y bytes maxL ret hh).before args s = true ∧ (Cond.initialized y.cls).before args s = true ∧ (y.cls ≠ "java/lang/invoke/MethodHandle" ∧ y.cls ≠ "java/lang/invoke/VarHandle") ∧
  (∀ sig, parseMethodDescriptor y.desc = some sig → n = sig.parameters.length) ∧ (Cond.methodLink own index y).before args s = true ∧ (Cond.static y).before args s = true
theorem vx_cwSW {own : String} {index maxL mc ms : Nat} {y : MethodName} {bytes : ByteArray} {ret : Option FieldType} {hh : List (Nat × Nat × Nat × Nat)} {Ts ws ws' : List Cond} {rm : Room} (n : Nat) (ht : ∀ w ∈ Ts, w.before args s = true) (hT : GoodIn Ts (va_wsS own index y ws)) (hw : ws = Cond.codeWith y bytes maxL ret hh :: ws') (hrc : rm.cells = mc) (hrs : rm.slots = ms)
    (hd : y.cls ≠ "java/lang/invoke/MethodHandle" ∧ y.cls ≠ "java/lang/invoke/VarHandle" ∧ (parseMethodDescriptor y.desc).map (fun d => d.parameters.length) = some n) (hR : rm.frames + 1 ≤ R.frames ∧ 8 + (maxL + 11) + rm.locals ≤ R.locals) :
    vx_CSW R s args own index y bytes maxL ret hh ws rm mc ms n := by
  have ok : ∀ w ∈ va_wsS own index y ws, w.before args s = true := fun w h => ht w (hT w h).1
  have hG : GoodIn Ts ws := fun w h => hT w (by unfold va_wsS; exact List.mem_append_right _ h)
  have hc : Cond.codeWith y bytes maxL ret hh ∈ ws := by rw [hw]; exact List.mem_cons_self
  refine ⟨⟨hrc, hrs, hR.1, hR.2, pay_in ht hG, hc⟩, ht _ (hG _ hc).1, ok _ (by simp [va_wsS]), ⟨hd.1, hd.2.1⟩, fun sig h => ?_, ok _ (by simp [va_wsS]), ok _ (by simp [va_wsS])⟩
  have h2 := hd.2.2
  rw [h] at h2
  exact (Option.some.inj h2).symm
theorem vx_callSW (X : Stand p l e R s m args below meth c T locs cells slots) (hexec : p.tables.exec = Jvm.exec) {own : String} {index : Nat} {y : MethodName} {bytes : ByteArray} {maxL : Nat} {ret : Option FieldType} {hh : List (Nat × Nat × Nat × Nat)}
    (hown : s.vm.findClass own = some m.cls) (hlink : (Cond.methodLink own index y).before args s = true) (hstat : (Cond.static y).before args s = true) (hinit : (Cond.initialized y.cls).before args s = true)
    (hcode : (Cond.codeWith y bytes maxL ret hh).before args s = true) (hy : y.cls ≠ "java/lang/invoke/MethodHandle" ∧ y.cls ≠ "java/lang/invoke/VarHandle")
    {W9 : Nat} {Pre : Pt → Array Value → Prop} {Post : Pt → Array Value → Option Value → Pt → Prop} (hK : Back l R p e below s args y 3 W9 Pre Post)
    {g : JFrame} (hg : g.method = m) (hsize : g.locals.size = c.maxLocals) {argsL rest : List Value} (hlen : ∀ sig, parseMethodDescriptor y.desc = some sig → argsL.length = sig.parameters.length)
    (hstack : g.stack = argsL.reverse ++ rest) (hW : 2 * g.monitorRoom + (rest.map fun v => v.category).sum ≤ W9) (hdg : decode c.code g.pc = .ok (.invokestatic index, 3))
    (hpre : ∀ vm₁, s.WarmedH vm₁ → Pre ⟨T.setVm vm₁, locs, cells, slots⟩ argsL.toArray) :
    ∃ (v : Option Value) (vm₁ : Vm) (B : Pt), s.WarmedH vm₁ ∧ Stand p l e R s m args below meth c B.U B.locs B.cells B.slots ∧ Post ⟨T.setVm vm₁, locs, cells, slots⟩ argsL.toArray v B ∧
      ∀ target, Steps p.tables e below (B.U.setTop { g with pc := g.pc + 3, stack := v.toList ++ rest }) target → Steps p.tables e below (T.setTop g) target := by
  obtain ⟨mk, methM, cM, hnamed, hmethM, -, -, -, -, -, -, hsigM⟩ := Cond.codeWith_spec hcode
  have hstatic : methM.isStatic = true := Cond.static_spec hnamed hmethM hstat
  obtain ⟨kP, hkP, -⟩ := className_of_methodNamed hnamed
  have hinitP : kP.init = .initialized := Cond.initialized_spec (findClass_of_methodNamed hnamed) hkP hinit
  obtain ⟨vm₁, X₁, hstep₁⟩ := X.invokestatic hexec hown hlink hnamed hmethM hstatic hkP hinitP hy (g := g) hg (argsL := argsL) (rest := rest) (hlen _ hsigM) hstack hdg
  obtain ⟨v, B, X', hpost, hsteps⟩ := hK m meth c ⟨T.setVm vm₁, locs, cells, slots⟩ { g with stack := rest } (.invokestatic index) mk argsL.toArray X₁ hg hsize hdg hW (X₁.named hnamed) (hpre vm₁ X₁.warmed)
  exact ⟨v, vm₁, B, X₁.warmed, X', hpost, fun target h => hstep₁ _ fun acts => by rw [doInvoke_state]; exact hsteps.trans h⟩
theorem vx_runSW {y : MethodName} {bytes cc : ByteArray} {maxL nL mc ms n index : Nat} {ret : Option FieldType} {hh : List (Nat × Nat × Nat × Nat)} {ws : List Cond} {rm : Room} {Pc : Array Value → State → Prop} {Qc : Array Value → State → Outcome → State → Prop} {free : Addr → Prop} {Ts : List Cond} {own : String} {As rest : List Value} {g : JFrame}
    (S : CallFix p m c cc nL s args Ts own) (hM : Met l y ws rm Pc Qc mc ms free) (cw : vx_CSW R s args own index y bytes maxL ret hh ws rm mc ms n) (hp : PreS s H Pc As)
    (hg : g.method = m) (hn : As.length = n) (hsize : g.locals.size = nL) (hstack : g.stack = As.reverse ++ rest) (hW : 2 * g.monitorRoom + (rest.map fun v => v.category).sum ≤ 8) (hdg : decode cc g.pc = .ok (.invokestatic index, 3)) (hf : cells + mc ≤ R.cells ∧ slots + ms ≤ R.slots) :
    va_Run p l e R s m args below meth c H locs cells slots mc ms g rest (Qc As.toArray) (free) := by
  obtain ⟨⟨hrc, hrs, hfr, hlo, hws, hcw⟩, hcode, hini, hy, hlen, hl, hstt⟩ := cw
  have hK : Back l R p e below s args y 3 8 (PreOf R mc ms Pc) (PostOf Qc mc ms free) := va_backW (hh := hh) (bytes := bytes) (maxL := maxL) (ret := ret) hM hp.1 hrc hrs hfr hlo hws hcw (fun a' U hW => word_at hW (Or.inl (by first | rfl | simp [Cond.onTables, Cond.keeps, Cond.steady])) hini)
  obtain ⟨hx, hb, hml, ho, -⟩ := S
  intro T hT X
  obtain ⟨v, vm₁, ⟨U', l2, c2, s2⟩, hW₁, X', ⟨g', mk, t, L, e1, e2, hq, h1, hL, h2, h3⟩, st⟩ := vx_callSW X hx (hh := hh) (bytes := bytes) (maxL := maxL) (ret := ret) ho hl hstt hini hcode hy hK hg (hsize.trans hml.symm) (argsL := As) (rest := rest) (fun sig h => hn.trans (hlen sig h)) hstack hW (by rw [hb]; exact hdg)
    (fun vm₁ hW₁ => ⟨hf.1, hf.2, hp.2 (T.setVm vm₁) hT hW₁⟩)
  dsimp only [Pt.U, Pt.locs, Pt.cells, Pt.slots] at X' e1 e2 h1 h2 h3 st
  subst h1; subst h2; subst h3
  exact ⟨v, (T.setVm vm₁).calling g' mk As.toArray, t, U', L, hT, X', hL, e1, e2, hq, st⟩
/-- not caught here, past rows that name other classes: it goes on to the caller -/
theorem vx_outP {p : Program} {l : Launch} {e : Env} {R : Room} {s : State} {m : MethodId} {args : Array Value} {below : List Frame} {meth : Method} {c : Code} {H : Heap} {locs : List Loc} {cells slots : Nat} {free : Addr → Prop} {ls : Array Slot} {rest : List Value} {Qc : Array Value → State → Outcome → State → Prop} {XC : String → State → State → Prop}
    {pc : Nat} {own E : String} {ce : Cell} {q : Addr} {mc ms : Nat} (hown : s.vm.findClass own = some m.cls) (hlocks : meth.locks = false)
    (hpass : ∀ z ∈ c.exceptionTable.toList, covers z pc = false ∨ (z.catchType ≠ 0 ∧ ∃ nm : String, (Cond.classLink own z.catchType nm).before args s = true ∧ va_Nc E nm s)) (hcell : H[q]? = some ce) (hv : ce.vm = .none) (hcl : s.vm.findClass E = some ce.cls)
    (hx : ∀ t : State, t.heap = H → s.vm.Alike t.vm → XC E s t) (hf : ∀ z ∈ locs, free z.base) (hc : cells ≤ mc) (hs : slots ≤ ms) :
    vx_W p l e R s m args below meth c H locs cells slots (vx_MQ below Qc XC args s mc ms free) (F0 m pc ls rest) q := by
  intro T hT X
  have hpl : e.platform.magicAccessors = ({} : Platform).magicAccessors := by rw [X.admits.platform]
  obtain ⟨vm', hW', X', st⟩ := X.outThrough hlocks q (g := F0 m pc ls rest) rfl rfl rfl (cell := ce) (by rw [hT]; exact hcell) (by rw [hv]; rfl)
    (by obtain ⟨k9, h9, -⟩ := Vm.findClass_spec hcl; exact ⟨k9, h9⟩) (fun z hz => by
      rcases hpass z hz with h | ⟨hz0, nm, hl1, hn1⟩
      · exact Or.inl h
      · obtain ⟨c6, hc6, hcl6⟩ := Cond.classLink_spec hown hl1 e.platform hpl
        obtain ⟨a8, b8, h1, h2, h3⟩ := hn1
        cases Option.some.inj (h1.symm.trans hcl)
        cases Option.some.inj (h2.symm.trans hc6)
        exact Or.inr ⟨hz0, _, hcl6, h3⟩)
  obtain ⟨g₀, hfr⟩ := X'.frames_eq
  have hcell9 : ((T.setVm vm').setFrames (.throwing q :: below)).heap[q]? = some ce := by
    show T.heap[q]? = some ce
    rw [hT]; exact hcell
  have hend : Ended ((T.setVm vm').setFrames (.throwing q :: below)) below (.threw q) := State.frames_setFrames _ (State.cur_lt_of_frames hfr)
  refine ⟨(T.setVm vm').setFrames (.throwing q :: below), ?_, .threw q, X'.here.running, hend, Or.inr ⟨q, rfl, E, ce, locs, hx _ hT (X'.ends _).1.alike, hcell9, hv, hcl, (X'.ends _).1, (X'.ends _).2.mono hc hs, hf⟩⟩
  rw [X.pushThrowing_eq]
  exact st
/-- a thing of a world lies in the heap -/
theorem vx_lt {D : va_G} {cl : List vw_C} {ws : va_W} {H1 : Heap} (h : va_P D cl ws H1) {k : Nat} {q : Nat × va_E} (hk : ws[k]? = some q) : q.1 < H1.size := (h k q hk).lt
end VXS
/-! ===== END ===== -/
/-! ===== BEGIN methods with a table of their own: called by a name, returning or throwing ===== -/
section VXH
/-! vx_backW, vx_callVX, vx_callSX, vx_callVW, vx_runVW, vx_runVX, vx_runSX, vx_ofWH follow the same proofs as their sisters above (Free/Laws.lean, Shelf42/LK1.lean); vx_outP calls Shelf42/NT130.lean (outThrough). -/
section
variable {l : Launch} {R : Room} {p : Program} {e : Env} {below : List Frame} {s : State} {sargs : Array Value} {y : MethodName} {len W9 : Nat}
theorem vx_backW {ws : List Cond} {rm : Room} {Pc : Array Value → State → Prop} {Qc : Array Value → State → Outcome → State → Prop} {XC : String → State → State → Prop} {mc ms : Nat} {free : Addr → Prop} {bytes : ByteArray} {maxL : Nat} {ret : Option FieldType} {hh : List (Nat × Nat × Nat × Nat)}
    (hM : vx_Met l y ws rm Pc Qc XC mc ms free) (hblind : FrameBlind Pc) (hrc : rm.cells = mc) (hrs : rm.slots = ms)
    (hframes : rm.frames + 1 ≤ R.frames) (hlocals : W9 + (maxL + 11) + rm.locals ≤ R.locals)
    (hws : ∀ w ∈ ws, ∀ a' U, s.WarmedH U.vm → w.before a' U = true) (hcode : Cond.codeWith y bytes maxL ret hh ∈ ws) (hinit : ∀ a' U, s.WarmedH U.vm → (Cond.initialized y.cls).before a' U = true) :
    vx_Back l R p e below s sargs y len W9 (PreOf R mc ms Pc) (PostOf Qc mc ms free) (vx_Post XC mc ms free) := by
  intro m meth c A g ig mk a X hg hsize hdg hW hn hp
  have h1 : (headSpec ws rm).pre.before a A.U = true := atoms_intro fun w hw => hws w hw _ _ X.warmed
  have h2 : (Cond.codeWith y bytes maxL ret hh).before a A.U = true := hws _ hcode _ _ X.warmed
  have h3 : (Cond.initialized y.cls).before a A.U = true := hinit _ _ X.warmed
  have h4 : A.cells + (headSpec ws rm).room.cells ≤ R.cells := by rw [show (headSpec ws rm).room.cells = mc from hrc]; exact hp.1
  have h5 : A.slots + (headSpec ws rm).room.slots ≤ R.slots := by rw [show (headSpec ws rm).room.slots = ms from hrs]; exact hp.2.1
  have hPc : Pc a (A.U.calling g mk a) := hblind _ _ _ _ hp.2.2
  obtain ⟨U, Ls, c0, s0⟩ := A
  dsimp only [Pt.U, Pt.locs, Pt.cells, Pt.slots] at h1 h2 h3 h4 h5 X hn hPc ⊢
  obtain ⟨m9, methY, cY, hn9, hmY, hcY, -, hlY, -⟩ := Cond.codeWith_spec h2
  cases Option.some.inj (hn9.symm.trans hn)
  obtain ⟨kY, hkY, -⟩ := className_of_methodNamed hn
  have hinitY : kY.init = .initialized := Cond.initialized_spec (findClass_of_methodNamed hn) hkY h3
  have h : At U g.method c below := by rw [hg]; exact X.here
  have hlocals9 : W9 + (maxL + 11) + (headSpec ws rm).room.locals ≤ R.locals := hlocals
  have happ : (headSpec ws rm).appliesLoose y e.platform (U.calling g mk a) = true :=
    Spec.appliesLoose_calling (g := g) h hdg hn hkY hinitY
      (X.room_calling (g := g) (R' := (headSpec ws rm).room) hsize hmY hcY hframes (by rw [hlY]; omega) h4 h5) h1
  obtain ⟨mid, hmid⟩ := h.above
  have hfr : (U.setTop g).frames = (.java g :: mid) ++ below := by rw [State.frames_setTop' g h.top, hmid]; rfl
  obtain ⟨o, s₂, hsteps, -, hend, hq⟩ := Steps.callFree hM p X.admits X.cas X.clock (acts := []) hfr happ hPc trivial
  have hq' : vx_Q Qc XC mc ms free a (U.calling g mk a) o s₂ := hq
  rw [State.frames_setTop' g h.top] at hend
  obtain ⟨g₀, hg0⟩ := Option.isSome_iff_exists.mp h.top
  obtain ⟨r, hr⟩ := State.topJava?_eq_some.mp hg0
  have hr' : (({ U with heap := s₂.heap, slotsUsed := s₂.slotsUsed } : State).setVm s₂.vm).frames = .java g₀ :: r := hr
  rcases hq' with ⟨hqc, L, hfe, hL⟩ | ⟨q, rfl, E, ce, L, hx, hce, hcv, hcl, hW₂, hsm, hL⟩
  · obtain ⟨⟨v, rfl⟩, hW₂, e2, q2, q3, q4, q5, q6⟩ := id hfe
    have e3 : s₂ = ({ (U.calling g mk a).setFrames s₂.frames with heap := s₂.heap, slotsUsed := s₂.slotsUsed } : State).setVm s₂.vm := by
      have : s₂ = ({ s₂ with vm := (U.calling g mk a).vm } : State).setVm s₂.vm := rfl
      rw [e2] at this
      exact this
    obtain ⟨c₂, i₂, len₂, hc₂, hd₂, hf₂⟩ := hend
    have hW' : U.WarmedH s₂.vm := hW₂
    have hcc : c₂ = c := by
      have h1 : s₂.code? g.method = U.code? g.method := by
        rw [State.code?_eq, State.code?_eq, hW'.alike.method?]
      exact Option.some.inj (hc₂.symm.trans (h1.trans h.code))
    subst hcc
    have hlen : len₂ = len := by rw [hdg] at hd₂; cases hd₂; rfl
    subst hlen
    have hs₂ : s₂ = (({ U with heap := s₂.heap, slotsUsed := s₂.slotsUsed } : State).setVm s₂.vm).setTop { g with pc := g.pc + len₂, stack := v.toList ++ g.stack } := by
      refine e3.trans ?_
      rw [hf₂, State.calling_eq h.top, State.setFrames_setFrames, State.setTop_of_frames _ hr', hr]
      rfl
    have hsame : U.sameButNew ({ U with heap := s₂.heap, slotsUsed := s₂.slotsUsed } : State) L mc ms := by
      refine ⟨?_, q2, q3, q4, q5, q6⟩
      obtain ⟨t, ht, -⟩ := State.frames_cons hr
      show ({ U with heap := s₂.heap, slotsUsed := s₂.slotsUsed } : State) = { U.setFrames U.frames with heap := s₂.heap, slotsUsed := s₂.slotsUsed }
      rw [State.setFrames_self ht]
    subst hg
    refine Or.inl ⟨v, ⟨(({ U with heap := s₂.heap, slotsUsed := s₂.slotsUsed } : State).setVm s₂.vm), Ls ++ L, c0 + mc, s0 + ms⟩,
      ⟨X.admits, X.cas, X.clock, X.frames, X.room, X.hears, X.method, X.code, (X.here.setHeapUsed s₂.heap s₂.slotsUsed).setVm hW'.alike, X.tail, State.WarmedH.trans X.warmed hW', X.limits, X.bytes, X.same.trans (hsame.setVm s.vm)⟩,
      ⟨g, mk, s₂, L, rfl, rfl, hqc, rfl, hL, rfl, rfl⟩, ?_⟩
    show Steps p.tables e below _ ((({ U with heap := s₂.heap, slotsUsed := s₂.slotsUsed } : State).setVm s₂.vm).setTop { g with pc := g.pc + len₂, stack := v.toList ++ g.stack })
    rw [← hs₂]
    exact hsteps
  · obtain ⟨e2, q2, q3, q4, q5, q6⟩ := id hsm
    have e3 : s₂ = ({ (U.calling g mk a).setFrames s₂.frames with heap := s₂.heap, slotsUsed := s₂.slotsUsed } : State).setVm s₂.vm := by
      have : s₂ = ({ s₂ with vm := (U.calling g mk a).vm } : State).setVm s₂.vm := rfl
      rw [e2] at this
      exact this
    have hf₂ : s₂.frames = .throwing q :: .java g :: U.frames.tail := hend
    have hW' : U.WarmedH s₂.vm := hW₂
    have hs₂ : s₂ = ((({ U with heap := s₂.heap, slotsUsed := s₂.slotsUsed } : State).setVm s₂.vm).setTop g).pushFrame (.throwing q) := by
      refine e3.trans ?_
      rw [hf₂, State.calling_eq h.top, State.setFrames_setFrames, State.pushFrame, State.frames_setTop _ hr', State.setTop_of_frames _ hr', State.setFrames_setFrames, hr]
      rfl
    have hsame : U.sameButNew ({ U with heap := s₂.heap, slotsUsed := s₂.slotsUsed } : State) L mc ms := by
      refine ⟨?_, q2, q3, q4, q5, q6⟩
      obtain ⟨t, ht, -⟩ := State.frames_cons hr
      show ({ U with heap := s₂.heap, slotsUsed := s₂.slotsUsed } : State) = { U.setFrames U.frames with heap := s₂.heap, slotsUsed := s₂.slotsUsed }
      rw [State.setFrames_self ht]
    subst hg
    refine Or.inr ⟨q, ⟨(({ U with heap := s₂.heap, slotsUsed := s₂.slotsUsed } : State).setVm s₂.vm), Ls ++ L, c0 + mc, s0 + ms⟩,
      ⟨X.admits, X.cas, X.clock, X.frames, X.room, X.hears, X.method, X.code, (X.here.setHeapUsed s₂.heap s₂.slotsUsed).setVm hW'.alike, X.tail, State.WarmedH.trans X.warmed hW', X.limits, X.bytes, X.same.trans (hsame.setVm s.vm)⟩,
      ⟨g, mk, s₂, L, E, ce, rfl, rfl, hx, hce, hcv, hcl, rfl, hL, rfl, rfl⟩, ?_⟩
    show Steps p.tables e below _ (((({ U with heap := s₂.heap, slotsUsed := s₂.slotsUsed } : State).setVm s₂.vm).setTop g).pushFrame (.throwing q))
    rw [← hs₂]
    exact hsteps
end
variable {p : Program} {l : Launch} {e : Env} {R : Room} {s : State} {m : MethodId} {args : Array Value} {below : List Frame} {meth : Method} {c : Code} {T : State} {H : Heap} {locs : List Loc} {cells slots : Nat}
theorem vx_callVX (X : Stand p l e R s m args below meth c T locs cells slots) (hexec : p.tables.exec = Jvm.exec) {own C : String} {index : Nat} {y : MethodName} {bytes : ByteArray} {maxL : Nat} {ret : Option FieldType} {hh : List (Nat × Nat × Nat × Nat)}
    (hown : s.vm.findClass own = some m.cls) (hlink : (Cond.methodLink own index y).before args s = true) (hinst : (Cond.instanceMethod y).before args s = true) (hsel : (Cond.selects C y y).before args s = true)
    (hcode : (Cond.codeWith y bytes maxL ret hh).before args s = true) (hy : y.cls ≠ "java/lang/invoke/MethodHandle" ∧ y.cls ≠ "java/lang/invoke/VarHandle")
    {W9 : Nat} {Pre : Pt → Array Value → Prop} {Post : Pt → Array Value → Option Value → Pt → Prop} {PostX : Pt → Array Value → Addr → Pt → Prop} (hK : vx_Back l R p e below s args y 3 W9 Pre Post PostX)
    {b : Addr} {cellB : Cell} (hcell : T.heap[b]? = some cellB) (hobj : cellB.vm.isStatics = false) (hcls : s.vm.findClass C = some cellB.cls)
    {g : JFrame} (hg : g.method = m) (hsize : g.locals.size = c.maxLocals) {argsL rest : List Value} (hlen : ∀ sig, parseMethodDescriptor y.desc = some sig → argsL.length = sig.parameters.length)
    (hstack : g.stack = argsL.reverse ++ .ref b :: rest) (hW : 2 * g.monitorRoom + (rest.map fun v => v.category).sum ≤ W9) (hdg : decode c.code g.pc = .ok (.invokevirtual index, 3))
    (hpre : ∀ vm₁, s.WarmedH vm₁ → Pre ⟨T.setVm vm₁, locs, cells, slots⟩ (Value.ref b :: argsL).toArray) :
    (∃ (v : Option Value) (vm₁ : Vm) (B : Pt), s.WarmedH vm₁ ∧ Stand p l e R s m args below meth c B.U B.locs B.cells B.slots ∧ Post ⟨T.setVm vm₁, locs, cells, slots⟩ (Value.ref b :: argsL).toArray v B ∧
      ∀ target, Steps p.tables e below (B.U.setTop { g with pc := g.pc + 3, stack := v.toList ++ rest }) target → Steps p.tables e below (T.setTop g) target) ∨
    (∃ (q : Addr) (vm₁ : Vm) (B : Pt), s.WarmedH vm₁ ∧ Stand p l e R s m args below meth c B.U B.locs B.cells B.slots ∧ PostX ⟨T.setVm vm₁, locs, cells, slots⟩ (Value.ref b :: argsL).toArray q B ∧
      Steps p.tables e below (T.setTop g) ((B.U.setTop { g with stack := rest }).pushFrame (.throwing q))) := by
  obtain ⟨mk, methM, hnamed, hmethM, hstM, habM⟩ := Cond.instanceMethod_spec hinst
  obtain ⟨m8, methM', cM, hn8, hmethM', -, -, -, -, -, -, hsigM⟩ := Cond.codeWith_spec hcode
  cases Option.some.inj (hn8.symm.trans hnamed)
  cases hmethM.symm.trans hmethM'
  obtain ⟨c2, r2, m2, q1, q2, q3, q4, kP, hkP, hkPi⟩ := Cond.selects_spec hsel
  cases hcls.symm.trans q1
  cases (State.methodFound?_of_named hnamed hy).symm.trans q2
  cases hnamed.symm.trans q3
  have hselP : selectMethod e.platform s.vm cellB.cls mk = .method mk := by rw [Launch.admits_selectMethod X.admits]; exact q4
  obtain ⟨vm₁, X₁, hstep₁⟩ := X.invokevirtual hexec hown hlink hnamed hmethM hstM hkP hkPi hy (a := b) (cell := cellB) hcell
    (fun z h => by rw [h] at hobj; cases hobj) hselP hmethM habM hkP hkPi (g := g) hg (argsL := argsL) (rest := rest) (hlen _ hsigM) hstack hdg
  rcases hK m meth c ⟨T.setVm vm₁, locs, cells, slots⟩ { g with stack := rest } (.invokevirtual index) mk (Value.ref b :: argsL).toArray X₁ hg hsize hdg hW (X₁.named hnamed) (hpre vm₁ X₁.warmed) with ⟨v, B, X', hpost, hsteps⟩ | ⟨q, B, X', hpost, hsteps⟩
  · exact Or.inl ⟨v, vm₁, B, X₁.warmed, X', hpost, fun target h => hstep₁ _ fun acts => by rw [doInvoke_state]; exact hsteps.trans h⟩
  · exact Or.inr ⟨q, vm₁, B, X₁.warmed, X', hpost, hstep₁ _ fun acts => by rw [doInvoke_state]; exact hsteps⟩
theorem vx_callSX (X : Stand p l e R s m args below meth c T locs cells slots) (hexec : p.tables.exec = Jvm.exec) {own : String} {index : Nat} {y : MethodName} {bytes : ByteArray} {maxL : Nat} {ret : Option FieldType} {hh : List (Nat × Nat × Nat × Nat)}
    (hown : s.vm.findClass own = some m.cls) (hlink : (Cond.methodLink own index y).before args s = true) (hstat : (Cond.static y).before args s = true) (hinit : (Cond.initialized y.cls).before args s = true)
    (hcode : (Cond.codeWith y bytes maxL ret hh).before args s = true) (hy : y.cls ≠ "java/lang/invoke/MethodHandle" ∧ y.cls ≠ "java/lang/invoke/VarHandle")
    {W9 : Nat} {Pre : Pt → Array Value → Prop} {Post : Pt → Array Value → Option Value → Pt → Prop} {PostX : Pt → Array Value → Addr → Pt → Prop} (hK : vx_Back l R p e below s args y 3 W9 Pre Post PostX)
    {g : JFrame} (hg : g.method = m) (hsize : g.locals.size = c.maxLocals) {argsL rest : List Value} (hlen : ∀ sig, parseMethodDescriptor y.desc = some sig → argsL.length = sig.parameters.length)
    (hstack : g.stack = argsL.reverse ++ rest) (hW : 2 * g.monitorRoom + (rest.map fun v => v.category).sum ≤ W9) (hdg : decode c.code g.pc = .ok (.invokestatic index, 3))
    (hpre : ∀ vm₁, s.WarmedH vm₁ → Pre ⟨T.setVm vm₁, locs, cells, slots⟩ argsL.toArray) :
    (∃ (v : Option Value) (vm₁ : Vm) (B : Pt), s.WarmedH vm₁ ∧ Stand p l e R s m args below meth c B.U B.locs B.cells B.slots ∧ Post ⟨T.setVm vm₁, locs, cells, slots⟩ argsL.toArray v B ∧
      ∀ target, Steps p.tables e below (B.U.setTop { g with pc := g.pc + 3, stack := v.toList ++ rest }) target → Steps p.tables e below (T.setTop g) target) ∨
    (∃ (q : Addr) (vm₁ : Vm) (B : Pt), s.WarmedH vm₁ ∧ Stand p l e R s m args below meth c B.U B.locs B.cells B.slots ∧ PostX ⟨T.setVm vm₁, locs, cells, slots⟩ argsL.toArray q B ∧
      Steps p.tables e below (T.setTop g) ((B.U.setTop { g with stack := rest }).pushFrame (.throwing q))) := by
  obtain ⟨mk, methM, cM, hnamed, hmethM, -, -, -, -, -, -, hsigM⟩ := Cond.codeWith_spec hcode
  have hstatic : methM.isStatic = true := Cond.static_spec hnamed hmethM hstat
  obtain ⟨kP, hkP, -⟩ := className_of_methodNamed hnamed
  have hinitP : kP.init = .initialized := Cond.initialized_spec (findClass_of_methodNamed hnamed) hkP hinit
  obtain ⟨vm₁, X₁, hstep₁⟩ := X.invokestatic hexec hown hlink hnamed hmethM hstatic hkP hinitP hy (g := g) hg (argsL := argsL) (rest := rest) (hlen _ hsigM) hstack hdg
  rcases hK m meth c ⟨T.setVm vm₁, locs, cells, slots⟩ { g with stack := rest } (.invokestatic index) mk argsL.toArray X₁ hg hsize hdg hW (X₁.named hnamed) (hpre vm₁ X₁.warmed) with ⟨v, B, X', hpost, hsteps⟩ | ⟨q, B, X', hpost, hsteps⟩
  · exact Or.inl ⟨v, vm₁, B, X₁.warmed, X', hpost, fun target h => hstep₁ _ fun acts => by rw [doInvoke_state]; exact hsteps.trans h⟩
  · exact Or.inr ⟨q, vm₁, B, X₁.warmed, X', hpost, hstep₁ _ fun acts => by rw [doInvoke_state]; exact hsteps⟩
theorem vx_callVW (X : Stand p l e R s m args below meth c T locs cells slots) (hexec : p.tables.exec = Jvm.exec) {own C : String} {index : Nat} {y : MethodName} {bytes : ByteArray} {maxL : Nat} {ret : Option FieldType} {hh : List (Nat × Nat × Nat × Nat)}
    (hown : s.vm.findClass own = some m.cls) (hlink : (Cond.methodLink own index y).before args s = true) (hinst : (Cond.instanceMethod y).before args s = true) (hsel : (Cond.selects C y y).before args s = true)
    (hcode : (Cond.codeWith y bytes maxL ret hh).before args s = true) (hy : y.cls ≠ "java/lang/invoke/MethodHandle" ∧ y.cls ≠ "java/lang/invoke/VarHandle")
    {W9 : Nat} {Pre : Pt → Array Value → Prop} {Post : Pt → Array Value → Option Value → Pt → Prop} (hK : Back l R p e below s args y 3 W9 Pre Post)
    {b : Addr} {cellB : Cell} (hcell : T.heap[b]? = some cellB) (hobj : cellB.vm.isStatics = false) (hcls : s.vm.findClass C = some cellB.cls)
    {g : JFrame} (hg : g.method = m) (hsize : g.locals.size = c.maxLocals) {argsL rest : List Value} (hlen : ∀ sig, parseMethodDescriptor y.desc = some sig → argsL.length = sig.parameters.length)
    (hstack : g.stack = argsL.reverse ++ .ref b :: rest) (hW : 2 * g.monitorRoom + (rest.map fun v => v.category).sum ≤ W9) (hdg : decode c.code g.pc = .ok (.invokevirtual index, 3))
    (hpre : ∀ vm₁, s.WarmedH vm₁ → Pre ⟨T.setVm vm₁, locs, cells, slots⟩ (Value.ref b :: argsL).toArray) :
    ∃ (v : Option Value) (vm₁ : Vm) (B : Pt), s.WarmedH vm₁ ∧ Stand p l e R s m args below meth c B.U B.locs B.cells B.slots ∧ Post ⟨T.setVm vm₁, locs, cells, slots⟩ (Value.ref b :: argsL).toArray v B ∧
      ∀ target, Steps p.tables e below (B.U.setTop { g with pc := g.pc + 3, stack := v.toList ++ rest }) target → Steps p.tables e below (T.setTop g) target := by
  obtain ⟨mk, methM, hnamed, hmethM, hstM, habM⟩ := Cond.instanceMethod_spec hinst
  obtain ⟨m8, methM', cM, hn8, hmethM', -, -, -, -, -, -, hsigM⟩ := Cond.codeWith_spec hcode
  cases Option.some.inj (hn8.symm.trans hnamed)
  cases hmethM.symm.trans hmethM'
  obtain ⟨c2, r2, m2, q1, q2, q3, q4, kP, hkP, hkPi⟩ := Cond.selects_spec hsel
  cases hcls.symm.trans q1
  cases (State.methodFound?_of_named hnamed hy).symm.trans q2
  cases hnamed.symm.trans q3
  have hselP : selectMethod e.platform s.vm cellB.cls mk = .method mk := by rw [Launch.admits_selectMethod X.admits]; exact q4
  obtain ⟨vm₁, X₁, hstep₁⟩ := X.invokevirtual hexec hown hlink hnamed hmethM hstM hkP hkPi hy (a := b) (cell := cellB) hcell
    (fun z h => by rw [h] at hobj; cases hobj) hselP hmethM habM hkP hkPi (g := g) hg (argsL := argsL) (rest := rest) (hlen _ hsigM) hstack hdg
  obtain ⟨v, B, X', hpost, hsteps⟩ := hK m meth c ⟨T.setVm vm₁, locs, cells, slots⟩ { g with stack := rest } (.invokevirtual index) mk (Value.ref b :: argsL).toArray X₁ hg hsize hdg hW (X₁.named hnamed) (hpre vm₁ X₁.warmed)
  exact ⟨v, vm₁, B, X₁.warmed, X', hpost, fun target h => hstep₁ _ fun acts => by rw [doInvoke_state]; exact hsteps.trans h⟩
abbrev vx_CVW (R : Room) (s : State) (args : Array Value) (own C : String) (index : Nat) (y : MethodName) (bytes : ByteArray) (maxL : Nat) (ret : Option FieldType) (hh : List (Nat × Nat × Nat × Nat)) (ws : List Cond) (rm : Room) (mc ms n : Nat) : Prop :=
  (rm.cells = mc ∧ rm.slots = ms ∧ rm.frames + 1 ≤ R.frames ∧ 8 + (maxL + 11) + rm.locals ≤ R.locals ∧ (∀ w ∈ ws, ∀ (a' : Array Value) (U : State), s.WarmedH U.vm → w.before a' U = true) ∧ Cond.codeWith y bytes maxL ret hh ∈ ws) ∧
  (Cond.codeWith y bytes maxL ret hh).before args s = true ∧ (Cond.initialized y.cls).before args s = true ∧ (y.cls ≠ "java/lang/invoke/MethodHandle" ∧ y.cls ≠ "java/lang/invoke/VarHandle") ∧
  (∀ sig, parseMethodDescriptor y.desc = some sig → n = sig.parameters.length) ∧ (Cond.methodLink own index y).before args s = true ∧ (Cond.instanceMethod y).before args s = true ∧ (Cond.selects C y y).before args s = true
theorem vx_cwVW {own C : String} {index maxL mc ms : Nat} {y : MethodName} {bytes : ByteArray} {ret : Option FieldType} {hh : List (Nat × Nat × Nat × Nat)} {Ts ws ws' : List Cond} {rm : Room} (n : Nat) (ht : ∀ w ∈ Ts, w.before args s = true) (hT : GoodIn Ts (wsV own index C y ws)) (hw : ws = Cond.codeWith y bytes maxL ret hh :: ws') (hrc : rm.cells = mc) (hrs : rm.slots = ms)
    (hd : y.cls = C ∧ y.cls ≠ "java/lang/invoke/MethodHandle" ∧ y.cls ≠ "java/lang/invoke/VarHandle" ∧ (parseMethodDescriptor y.desc).map (fun d => d.parameters.length) = some n) (hR : rm.frames + 1 ≤ R.frames ∧ 8 + (maxL + 11) + rm.locals ≤ R.locals) :
    vx_CVW R s args own C index y bytes maxL ret hh ws rm mc ms n := by
  obtain ⟨hC, hd⟩ := hd
  subst hC
  have ok : ∀ w ∈ wsV own index y.cls y ws, w.before args s = true := fun w h => ht w (hT w h).1
  have hG : GoodIn Ts ws := fun w h => hT w (by unfold wsV; exact List.mem_append_right _ h)
  have hc : Cond.codeWith y bytes maxL ret hh ∈ ws := by rw [hw]; exact List.mem_cons_self
  refine ⟨⟨hrc, hrs, hR.1, hR.2, pay_in ht hG, hc⟩, ht _ (hG _ hc).1, ok _ (by simp [wsV]), ⟨hd.1, hd.2.1⟩, fun sig h => ?_, ok _ (by simp [wsV]), ok _ (by simp [wsV]), ok _ (by simp [wsV])⟩
  have h2 := hd.2.2
  rw [h] at h2
  exact (Option.some.inj h2).symm
theorem vx_runVW {y : MethodName} {bytes cc : ByteArray} {maxL nL mc ms n index : Nat} {ret : Option FieldType} {hh : List (Nat × Nat × Nat × Nat)} {ws : List Cond} {rm : Room} {Pc : Array Value → State → Prop} {Qc : Array Value → State → Outcome → State → Prop} {free : Addr → Prop} {Ts : List Cond} {own C : String} {b : Addr} {As rest : List Value} {g : JFrame}
    (S : CallFix p m c cc nL s args Ts own) (hM : Met l y ws rm Pc Qc mc ms free) (cw : vx_CVW R s args own C index y bytes maxL ret hh ws rm mc ms n) (hp : PreV s H C b Pc As)
    (hg : g.method = m) (hn : As.length = n) (hsize : g.locals.size = nL) (hstack : g.stack = As.reverse ++ .ref b :: rest) (hW : 2 * g.monitorRoom + (rest.map fun v => v.category).sum ≤ 8) (hdg : decode cc g.pc = .ok (.invokevirtual index, 3)) (hf : cells + mc ≤ R.cells ∧ slots + ms ≤ R.slots) :
    va_Run p l e R s m args below meth c H locs cells slots mc ms g rest (Qc (Value.ref b :: As).toArray) free := by
  obtain ⟨⟨hrc, hrs, hfr, hlo, hws, hcw⟩, hcode, hini, hy, hlen, hl, hin, hse⟩ := cw
  have hK : Back l R p e below s args y 3 8 (PreOf R mc ms Pc) (PostOf Qc mc ms free) := va_backW (hh := hh) (bytes := bytes) (maxL := maxL) (ret := ret) hM hp.1 hrc hrs hfr hlo hws hcw (fun a' U hW => word_at hW (Or.inl (by first | rfl | simp [Cond.onTables, Cond.keeps, Cond.steady])) hini)
  obtain ⟨hx, hb, hml, ho, -⟩ := S
  obtain ⟨-, ⟨cellB, hcB, hoB, hclB⟩, hPc⟩ := hp
  intro T hT X
  obtain ⟨v, vm₁, ⟨U', l2, c2, s2⟩, hW₁, X', ⟨g', mk, t, L, e1, e2, hq, h1, hL, h2, h3⟩, st⟩ := vx_callVW X hx (C := C) (hh := hh) (bytes := bytes) (maxL := maxL) (ret := ret) ho hl hin hse hcode hy hK (by rw [hT]; exact hcB) hoB hclB hg (hsize.trans hml.symm) (argsL := As) (rest := rest) (fun sig h => hn.trans (hlen sig h)) hstack hW (by rw [hb]; exact hdg)
    (fun vm₁ hW₁ => ⟨hf.1, hf.2, hPc (T.setVm vm₁) hT hW₁⟩)
  dsimp only [Pt.U, Pt.locs, Pt.cells, Pt.slots] at X' e1 e2 h1 h2 h3 st
  subst h1; subst h2; subst h3
  exact ⟨v, (T.setVm vm₁).calling g' mk (Value.ref b :: As).toArray, t, U', L, hT, X', hL, e1, e2, hq, st⟩
section
variable {y : MethodName} {bytes cc : ByteArray} {maxL nL mc ms n index : Nat} {ret : Option FieldType} {ws : List Cond} {rm : Room} {Pc : Array Value → State → Prop} {Qc : Array Value → State → Outcome → State → Prop} {XC : String → State → State → Prop} {free : Addr → Prop} {Ts : List Cond} {own C : String} {b : Addr} {As rest : List Value} {g : JFrame}
theorem vx_runVX {hh : List (Nat × Nat × Nat × Nat)} (S : CallFix p m c cc nL s args Ts own) (hM : vx_Met l y ws rm Pc Qc XC mc ms free) (cw : vx_CVW R s args own C index y bytes maxL ret hh ws rm mc ms n) (hp : PreV s H C b Pc As)
    (hg : g.method = m) (hn : As.length = n) (hsize : g.locals.size = nL) (hstack : g.stack = As.reverse ++ .ref b :: rest) (hW : 2 * g.monitorRoom + (rest.map fun v => v.category).sum ≤ 8) (hdg : decode cc g.pc = .ok (.invokevirtual index, 3)) (hf : cells + mc ≤ R.cells ∧ slots + ms ≤ R.slots) :
    vx_Run p l e R s m args below meth c H locs cells slots mc ms g rest (Qc (Value.ref b :: As).toArray) XC free := by
  obtain ⟨⟨hrc, hrs, hfr, hlo, hws, hcw⟩, hcode, hini, hy, hlen, hl, hin, hse⟩ := cw
  have hK : vx_Back l R p e below s args y 3 8 (PreOf R mc ms Pc) (PostOf Qc mc ms free) (vx_Post XC mc ms free) := vx_backW (hh := hh) (bytes := bytes) (maxL := maxL) (ret := ret) hM hp.1 hrc hrs hfr hlo hws hcw (fun a' U hW => word_at hW (Or.inl (by first | rfl | simp [Cond.onTables, Cond.keeps, Cond.steady])) hini)
  obtain ⟨hx, hb, hml, ho, -⟩ := S
  obtain ⟨-, ⟨cellB, hcB, hoB, hclB⟩, hPc⟩ := hp
  intro T hT X
  rcases vx_callVX X hx (C := C) (hh := hh) (bytes := bytes) (maxL := maxL) (ret := ret) ho hl hin hse hcode hy hK (by rw [hT]; exact hcB) hoB hclB hg (hsize.trans hml.symm) (argsL := As) (rest := rest) (fun sig h => hn.trans (hlen sig h)) hstack hW (by rw [hb]; exact hdg)
    (fun vm₁ hW₁ => ⟨hf.1, hf.2, hPc (T.setVm vm₁) hT hW₁⟩) with ⟨v, vm₁, ⟨U', l2, c2, s2⟩, hW₁, X', ⟨g', mk, t, L, e1, e2, hq, h1, hL, h2, h3⟩, st⟩ | ⟨q, vm₁, ⟨U', l2, c2, s2⟩, hW₁, X', ⟨g', mk, t, L, E, ce, e1, e2, hq, hce, hcv, hcl, h1, hL, h2, h3⟩, st⟩
  · dsimp only [Pt.U, Pt.locs, Pt.cells, Pt.slots] at X' e1 e2 h1 h2 h3 st
    subst h1; subst h2; subst h3
    exact Or.inl ⟨v, (T.setVm vm₁).calling g' mk (Value.ref b :: As).toArray, t, U', L, hT, X', hL, e1, e2, hq, st⟩
  · dsimp only [Pt.U, Pt.locs, Pt.cells, Pt.slots] at X' e1 e2 h1 h2 h3 st hcl
    subst h1; subst h2; subst h3
    exact Or.inr ⟨q, (T.setVm vm₁).calling g' mk (Value.ref b :: As).toArray, t, U', L, E, ce, hT, X', hL, e1, e2, hq, hce, hcv, vx_cls hW₁ hcl, st⟩
theorem vx_runSX {hh : List (Nat × Nat × Nat × Nat)} (S : CallFix p m c cc nL s args Ts own) (hM : vx_Met l y ws rm Pc Qc XC mc ms free) (cw : vx_CSW R s args own index y bytes maxL ret hh ws rm mc ms n) (hp : PreS s H Pc As)
    (hg : g.method = m) (hn : As.length = n) (hsize : g.locals.size = nL) (hstack : g.stack = As.reverse ++ rest) (hW : 2 * g.monitorRoom + (rest.map fun v => v.category).sum ≤ 8) (hdg : decode cc g.pc = .ok (.invokestatic index, 3)) (hf : cells + mc ≤ R.cells ∧ slots + ms ≤ R.slots) :
    vx_Run p l e R s m args below meth c H locs cells slots mc ms g rest (Qc As.toArray) XC free := by
  obtain ⟨⟨hrc, hrs, hfr, hlo, hws, hcw⟩, hcode, hini, hy, hlen, hl, hstt⟩ := cw
  have hK : vx_Back l R p e below s args y 3 8 (PreOf R mc ms Pc) (PostOf Qc mc ms free) (vx_Post XC mc ms free) := vx_backW (hh := hh) (bytes := bytes) (maxL := maxL) (ret := ret) hM hp.1 hrc hrs hfr hlo hws hcw (fun a' U hW => word_at hW (Or.inl (by first | rfl | simp [Cond.onTables, Cond.keeps, Cond.steady])) hini)
  obtain ⟨hx, hb, hml, ho, -⟩ := S
  intro T hT X
  rcases vx_callSX X hx (hh := hh) (bytes := bytes) (maxL := maxL) (ret := ret) ho hl hstt hini hcode hy hK hg (hsize.trans hml.symm) (argsL := As) (rest := rest) (fun sig h => hn.trans (hlen sig h)) hstack hW (by rw [hb]; exact hdg)
    (fun vm₁ hW₁ => ⟨hf.1, hf.2, hp.2 (T.setVm vm₁) hT hW₁⟩) with ⟨v, vm₁, ⟨U', l2, c2, s2⟩, hW₁, X', ⟨g', mk, t, L, e1, e2, hq, h1, hL, h2, h3⟩, st⟩ | ⟨q, vm₁, ⟨U', l2, c2, s2⟩, hW₁, X', ⟨g', mk, t, L, E, ce, e1, e2, hq, hce, hcv, hcl, h1, hL, h2, h3⟩, st⟩
  · dsimp only [Pt.U, Pt.locs, Pt.cells, Pt.slots] at X' e1 e2 h1 h2 h3 st
    subst h1; subst h2; subst h3
    exact Or.inl ⟨v, (T.setVm vm₁).calling g' mk As.toArray, t, U', L, hT, X', hL, e1, e2, hq, st⟩
  · dsimp only [Pt.U, Pt.locs, Pt.cells, Pt.slots] at X' e1 e2 h1 h2 h3 st hcl
    subst h1; subst h2; subst h3
    exact Or.inr ⟨q, (T.setVm vm₁).calling g' mk As.toArray, t, U', L, E, ce, hT, X', hL, e1, e2, hq, hce, hcv, vx_cls hW₁ hcl, st⟩
end
end VXH
theorem vx_ofWH {l : Launch} {y : MethodName} {ws ws' : List Cond} {rm : Room} {Pc : Array Value → State → Prop} {Qc : Array Value → State → Outcome → State → Prop} {XC : String → State → State → Prop} {mc ms : Nat} {free : Addr → Prop} {cc : ByteArray} {maxL : Nat} {ret : Option FieldType} {hh : List (Nat × Nat × Nat × Nat)}
    (hy : plainName y.cls = true) (hw : ws = Cond.codeWith y cc maxL ret hh :: ws')
    (body : ∀ p e s m args below meth c s₁, BodyLoose p l y (headSpec ws rm) cc maxL ret e s m args below meth c s₁ → c.maxLocals = maxL → Pc args s →
      W p l e (headSpec ws rm).room s m args below meth c s.heap [] 0 0 (vx_MQ below Qc XC args s mc ms free) (entryFrame m args maxL)) : vx_Met l y ws rm Pc Qc XC mc ms free := by
  refine MetFree.of_bodyS (code := cc) (maxLocals := maxL) (ret := ret) hy ?_ ?_
  · intro args s m h hn
    obtain ⟨m9, meth, c, hn9, h1, h2, h3, h4, -, h5, h6, -⟩ := Cond.codeWith_spec (atoms_spec (ws := ws) h _ (by rw [hw]; exact List.mem_cons_self))
    cases hn.symm.trans hn9
    exact ⟨meth, c, h1, h2, h3, h4, h5, h6⟩
  · intro p e s m args below meth c s₁ B hml hP _
    have hh0 : s₁.heap = s.heap := by rw [B.state]; rfl
    obtain ⟨t, a1, o, b1, b2, b3⟩ := body p e s m args below meth c s₁ B hml hP s₁ hh0 (Stand.of_body B)
    exact ⟨t, o, a1, b1, b2, b3⟩
/-! ===== END ===== -/
end
section
/-! ===== BEGIN printed: names, fields, word lists, decode rows ===== -/
def RX0 : String := "FieldScribe$Action"
def TX0 : u_T := fun k => match k with
  | 0 => ("FieldScribe$Action", "kind", "I", true)
  | 1 => ("FieldScribe$Action", "field", "I", true)
  | 2 => ("FieldScribe$Action", "tree", "LFieldScribe$Node;", true)
  | _ => ("FieldScribe$Action", "code", "[I", true)
def tyX0 : Nat → FieldType := fun k => match k with
  | 0 => .int
  | 1 => .int
  | 2 => .object "FieldScribe$Node"
  | _ => .array .int
abbrev wsX00 : List Cond := u_ws RX0 TX0 4
theorem nmX0 : ∀ a, a < 4 → ∀ b, b < 4 → a ≠ b → (TX0 a).2.1 ≠ (TX0 b).2.1 := by decide +kernel
theorem tyX0_ok : ∀ k, k < 4 → parseFieldDescriptor (TX0 k).2.2.1 = some (tyX0 k) := by decide +kernel
abbrev cX0_init : ByteArray := prog_2_method_1_code
def yX0_init : MethodName := ⟨RX0, "<init>", "(IILFieldScribe$Node;[I)V"⟩
def RX1 : String := "FieldScribe$Fork"
def TX1 : u_T := fun k => match k with
  | 0 => ("FieldScribe$Fork", "operation", "I", true)
  | 1 => ("FieldScribe$Fork", "left", "LFieldScribe$Leaf;", true)
  | 2 => ("FieldScribe$Fork", "right", "LFieldScribe$Leaf;", true)
  | _ => ("FieldScribe$Fork", "second", "LFieldScribe$Text;", true)
def tyX1 : Nat → FieldType := fun k => match k with
  | 0 => .int
  | 1 => .object "FieldScribe$Leaf"
  | 2 => .object "FieldScribe$Leaf"
  | _ => .object "FieldScribe$Text"
abbrev wsX10 : List Cond := u_ws RX1 TX1 4
theorem nmX1 : ∀ a, a < 4 → ∀ b, b < 4 → a ≠ b → (TX1 a).2.1 ≠ (TX1 b).2.1 := by decide +kernel
theorem tyX1_ok : ∀ k, k < 4 → parseFieldDescriptor (TX1 k).2.2.1 = some (tyX1 k) := by decide +kernel
abbrev cX1_init : ByteArray := prog_3_method_1_code
def yX1_init : MethodName := ⟨RX1, "<init>", "(ILFieldScribe$Leaf;LFieldScribe$Leaf;)V"⟩
abbrev cX1_find : ByteArray := prog_3_method_2_code
def yX1_find : MethodName := ⟨RX1, "find", "(LFieldScribe$Page;LFieldScribe$Text;)I"⟩
def RX2 : String := "FieldScribe$Leaf"
def TX2 : u_T := fun k => match k with
  | _ => ("FieldScribe$Leaf", "operand", "I", true)
def tyX2 : Nat → FieldType := fun k => match k with
  | _ => .int
abbrev wsX20 : List Cond := u_ws RX2 TX2 1
theorem nmX2 : ∀ a, a < 1 → ∀ b, b < 1 → a ≠ b → (TX2 a).2.1 ≠ (TX2 b).2.1 := by decide +kernel
theorem tyX2_ok : ∀ k, k < 1 → parseFieldDescriptor (TX2 k).2.2.1 = some (tyX2 k) := by decide +kernel
abbrev cX2_init : ByteArray := prog_4_method_1_code
def yX2_init : MethodName := ⟨RX2, "<init>", "(I)V"⟩
abbrev cX2_find : ByteArray := prog_4_method_2_code
def yX2_find : MethodName := ⟨RX2, "find", "(LFieldScribe$Page;LFieldScribe$Text;)I"⟩
def RX3 : String := "FieldScribe$Node"
def TX3 : u_T := fun k => match k with
  | _ => ("", "", "", false)
def tyX3 : Nat → FieldType := fun k => match k with
  | _ => .int
abbrev wsX30 : List Cond := u_ws RX3 TX3 0
theorem nmX3 : ∀ a, a < 0 → ∀ b, b < 0 → a ≠ b → (TX3 a).2.1 ≠ (TX3 b).2.1 := by decide +kernel
theorem tyX3_ok : ∀ k, k < 0 → parseFieldDescriptor (TX3 k).2.2.1 = some (tyX3 k) := by decide +kernel
abbrev cX3_init : ByteArray := prog_5_method_1_code
def yX3_init : MethodName := ⟨RX3, "<init>", "()V"⟩
def RX4 : String := "FieldScribe$Page"
def TX4 : u_T := fun k => match k with
  | 0 => ("FieldScribe$Page", "whole", "LFieldScribe$Text;", true)
  | 1 => ("FieldScribe$Page", "pieces", "[LFieldScribe$Text;", true)
  | 2 => ("FieldScribe$Page", "separator", "C", false)
  | 3 => ("FieldScribe$Page", "count", "I", false)
  | _ => ("FieldScribe$Page", "number", "I", false)
def tyX4 : Nat → FieldType := fun k => match k with
  | 0 => .object "FieldScribe$Text"
  | 1 => .array (.object "FieldScribe$Text")
  | 2 => .char
  | 3 => .int
  | _ => .int
abbrev wsX40 : List Cond := u_ws RX4 TX4 5
theorem nmX4 : ∀ a, a < 5 → ∀ b, b < 5 → a ≠ b → (TX4 a).2.1 ≠ (TX4 b).2.1 := by decide +kernel
theorem tyX4_ok : ∀ k, k < 5 → parseFieldDescriptor (TX4 k).2.2.1 = some (tyX4 k) := by decide +kernel
abbrev cX4_init : ByteArray := prog_6_method_1_code
def yX4_init : MethodName := ⟨RX4, "<init>", "()V"⟩
abbrev cX4_get : ByteArray := prog_6_method_2_code
def yX4_get : MethodName := ⟨RX4, "get", "(I)LFieldScribe$Text;"⟩
abbrev cX4_set : ByteArray := prog_6_method_3_code
def yX4_set : MethodName := ⟨RX4, "set", "(ILFieldScribe$Text;)V"⟩
abbrev cX4_join : ByteArray := prog_6_method_4_code
def yX4_join : MethodName := ⟨RX4, "join", "(I)V"⟩
abbrev cX4_cut : ByteArray := prog_6_method_5_code
def yX4_cut : MethodName := ⟨RX4, "cut", "()V"⟩
abbrev cX4_load : ByteArray := prog_6_method_6_code
def yX4_load : MethodName := ⟨RX4, "load", "(ILFieldScribe$Text;)V"⟩
def RX5 : String := "FieldScribe$Printout"
def TX5 : u_T := fun k => match k with
  | 0 => ("FieldScribe$Printout", "ring", "[LFieldScribe$Text;", true)
  | 1 => ("FieldScribe$Printout", "start", "I", false)
  | _ => ("FieldScribe$Printout", "count", "I", false)
def tyX5 : Nat → FieldType := fun k => match k with
  | 0 => .array (.object "FieldScribe$Text")
  | 1 => .int
  | _ => .int
abbrev wsX50 : List Cond := u_ws RX5 TX5 3
theorem nmX5 : ∀ a, a < 3 → ∀ b, b < 3 → a ≠ b → (TX5 a).2.1 ≠ (TX5 b).2.1 := by decide +kernel
theorem tyX5_ok : ∀ k, k < 3 → parseFieldDescriptor (TX5 k).2.2.1 = some (tyX5 k) := by decide +kernel
abbrev cX5_init : ByteArray := prog_7_method_1_code
def yX5_init : MethodName := ⟨RX5, "<init>", "()V"⟩
abbrev cX5_get : ByteArray := prog_7_method_2_code
def yX5_get : MethodName := ⟨RX5, "get", "(I)LFieldScribe$Text;"⟩
abbrev cX5_print : ByteArray := prog_7_method_3_code
def yX5_print : MethodName := ⟨RX5, "print", "(LFieldScribe$Text;)V"⟩
def RX6 : String := "FieldScribe$Row"
def TX6 : u_T := fun k => match k with
  | 0 => ("FieldScribe$Row", "name", "LFieldScribe$Text;", true)
  | _ => ("FieldScribe$Row", "sum", "I", false)
def tyX6 : Nat → FieldType := fun k => match k with
  | 0 => .object "FieldScribe$Text"
  | _ => .int
abbrev wsX60 : List Cond := u_ws RX6 TX6 2
theorem nmX6 : ∀ a, a < 2 → ∀ b, b < 2 → a ≠ b → (TX6 a).2.1 ≠ (TX6 b).2.1 := by decide +kernel
theorem tyX6_ok : ∀ k, k < 2 → parseFieldDescriptor (TX6 k).2.2.1 = some (tyX6 k) := by decide +kernel
abbrev cX6_init : ByteArray := prog_8_method_1_code
def yX6_init : MethodName := ⟨RX6, "<init>", "()V"⟩
def RX7 : String := "FieldScribe$Rule"
def TX7 : u_T := fun k => match k with
  | 0 => ("FieldScribe$Rule", "pattern", "I", true)
  | 1 => ("FieldScribe$Rule", "a", "I", true)
  | 2 => ("FieldScribe$Rule", "b", "I", true)
  | 3 => ("FieldScribe$Rule", "actions", "Ljava/util/ArrayList;", true)
  | _ => ("FieldScribe$Rule", "open", "Z", false)
def tyX7 : Nat → FieldType := fun k => match k with
  | 0 => .int
  | 1 => .int
  | 2 => .int
  | 3 => .object "java/util/ArrayList"
  | _ => .boolean
abbrev wsX70 : List Cond := u_ws RX7 TX7 5
theorem nmX7 : ∀ a, a < 5 → ∀ b, b < 5 → a ≠ b → (TX7 a).2.1 ≠ (TX7 b).2.1 := by decide +kernel
theorem tyX7_ok : ∀ k, k < 5 → parseFieldDescriptor (TX7 k).2.2.1 = some (tyX7 k) := by decide +kernel
abbrev cX7_init : ByteArray := prog_9_method_1_code
def yX7_init : MethodName := ⟨RX7, "<init>", "(III)V"⟩
abbrev cX7_isTrue : ByteArray := prog_9_method_2_code
def yX7_isTrue : MethodName := ⟨RX7, "isTrue", "(LFieldScribe$Page;)Z"⟩
abbrev cX7_isInRange : ByteArray := prog_9_method_3_code
def yX7_isInRange : MethodName := ⟨RX7, "isInRange", "(LFieldScribe$Text;)Z"⟩
def RX8 : String := "FieldScribe$StackMachine"
def TX8 : u_T := fun k => match k with
  | _ => ("FieldScribe$StackMachine", "stack", "[LFieldScribe$Text;", true)
def tyX8 : Nat → FieldType := fun k => match k with
  | _ => .array (.object "FieldScribe$Text")
abbrev wsX80 : List Cond := u_ws RX8 TX8 1
theorem nmX8 : ∀ a, a < 1 → ∀ b, b < 1 → a ≠ b → (TX8 a).2.1 ≠ (TX8 b).2.1 := by decide +kernel
theorem tyX8_ok : ∀ k, k < 1 → parseFieldDescriptor (TX8 k).2.2.1 = some (tyX8 k) := by decide +kernel
abbrev cX8_init : ByteArray := prog_10_method_1_code
def yX8_init : MethodName := ⟨RX8, "<init>", "()V"⟩
abbrev cX8_run : ByteArray := prog_10_method_2_code
def yX8_run : MethodName := ⟨RX8, "run", "([ILFieldScribe$Page;LFieldScribe$Text;)I"⟩
def RX9 : String := "FieldScribe$Table"
def TX9 : u_T := fun k => match k with
  | 0 => ("FieldScribe$Table", "all", "[LFieldScribe$Row;", true)
  | _ => ("FieldScribe$Table", "count", "I", false)
def tyX9 : Nat → FieldType := fun k => match k with
  | 0 => .array (.object "FieldScribe$Row")
  | _ => .int
abbrev wsX90 : List Cond := u_ws RX9 TX9 2
theorem nmX9 : ∀ a, a < 2 → ∀ b, b < 2 → a ≠ b → (TX9 a).2.1 ≠ (TX9 b).2.1 := by decide +kernel
theorem tyX9_ok : ∀ k, k < 2 → parseFieldDescriptor (TX9 k).2.2.1 = some (tyX9 k) := by decide +kernel
abbrev cX9_init : ByteArray := prog_11_method_1_code
def yX9_init : MethodName := ⟨RX9, "<init>", "()V"⟩
abbrev cX9_get : ByteArray := prog_11_method_2_code
def yX9_get : MethodName := ⟨RX9, "get", "(I)LFieldScribe$Row;"⟩
abbrev cX9_find : ByteArray := prog_11_method_3_code
def yX9_find : MethodName := ⟨RX9, "find", "(LFieldScribe$Text;)I"⟩
abbrev cX9_grow : ByteArray := prog_11_method_4_code
def yX9_grow : MethodName := ⟨RX9, "grow", "(LFieldScribe$Text;I)I"⟩
abbrev cX9_drop : ByteArray := prog_11_method_5_code
def yX9_drop : MethodName := ⟨RX9, "drop", "(LFieldScribe$Text;)V"⟩
def RX10 : String := "FieldScribe$Text"
def TX10 : u_T := fun k => match k with
  | 0 => ("FieldScribe$Text", "signs", "[C", true)
  | _ => ("FieldScribe$Text", "length", "I", false)
def tyX10 : Nat → FieldType := fun k => match k with
  | 0 => .array .char
  | _ => .int
abbrev wsX100 : List Cond := u_ws RX10 TX10 2
theorem nmX10 : ∀ a, a < 2 → ∀ b, b < 2 → a ≠ b → (TX10 a).2.1 ≠ (TX10 b).2.1 := by decide +kernel
theorem tyX10_ok : ∀ k, k < 2 → parseFieldDescriptor (TX10 k).2.2.1 = some (tyX10 k) := by decide +kernel
abbrev cX10_init : ByteArray := prog_12_method_1_code
def yX10_init : MethodName := ⟨RX10, "<init>", "()V"⟩
abbrev cX10_clear : ByteArray := prog_12_method_2_code
def yX10_clear : MethodName := ⟨RX10, "clear", "()V"⟩
abbrev cX10_at : ByteArray := prog_12_method_3_code
def yX10_at : MethodName := ⟨RX10, "at", "(I)C"⟩
abbrev cX10_put : ByteArray := prog_12_method_4_code
def yX10_put : MethodName := ⟨RX10, "put", "(C)V"⟩
abbrev cX10_add : ByteArray := prog_12_method_5_code
def yX10_add : MethodName := ⟨RX10, "add", "(LFieldScribe$Text;)V"⟩
abbrev cX10_copy : ByteArray := prog_12_method_6_code
def yX10_copy : MethodName := ⟨RX10, "copy", "(LFieldScribe$Text;)V"⟩
abbrev cX10_write : ByteArray := prog_12_method_7_code
def yX10_write : MethodName := ⟨RX10, "write", "(I)V"⟩
abbrev cX10_numberLength : ByteArray := prog_12_method_8_code
def yX10_numberLength : MethodName := ⟨RX10, "numberLength", "()I"⟩
abbrev cX10_asNumber : ByteArray := prog_12_method_9_code
def yX10_asNumber : MethodName := ⟨RX10, "asNumber", "()I"⟩
abbrev cX10_isNumeric : ByteArray := prog_12_method_10_code
def yX10_isNumeric : MethodName := ⟨RX10, "isNumeric", "()Z"⟩
abbrev cX10_isSameAs : ByteArray := prog_12_method_11_code
def yX10_isSameAs : MethodName := ⟨RX10, "isSameAs", "(I)Z"⟩
abbrev cX10_isLessThan : ByteArray := prog_12_method_12_code
def yX10_isLessThan : MethodName := ⟨RX10, "isLessThan", "(LFieldScribe$Text;)Z"⟩
abbrev cX10_hasSignsOf : ByteArray := prog_12_method_13_code
def yX10_hasSignsOf : MethodName := ⟨RX10, "hasSignsOf", "(LFieldScribe$Text;)Z"⟩
abbrev cX10_firstDifference : ByteArray := prog_12_method_14_code
def yX10_firstDifference : MethodName := ⟨RX10, "firstDifference", "(LFieldScribe$Text;)I"⟩
def RX11 : String := "FieldScribe"
def TX11 : u_T := fun k => match k with
  | 0 => ("FieldScribe", "program", "Ljava/util/ArrayList;", true)
  | 1 => ("FieldScribe", "page", "LFieldScribe$Page;", true)
  | 2 => ("FieldScribe", "table", "LFieldScribe$Table;", true)
  | 3 => ("FieldScribe", "printout", "LFieldScribe$Printout;", true)
  | 4 => ("FieldScribe", "machine", "LFieldScribe$StackMachine;", true)
  | 5 => ("FieldScribe", "typed", "LFieldScribe$Text;", true)
  | 6 => ("FieldScribe", "value", "LFieldScribe$Text;", true)
  | 7 => ("FieldScribe", "stacked", "Z", false)
  | _ => ("FieldScribe", "faultCount", "I", false)
def tyX11 : Nat → FieldType := fun k => match k with
  | 0 => .object "java/util/ArrayList"
  | 1 => .object "FieldScribe$Page"
  | 2 => .object "FieldScribe$Table"
  | 3 => .object "FieldScribe$Printout"
  | 4 => .object "FieldScribe$StackMachine"
  | 5 => .object "FieldScribe$Text"
  | 6 => .object "FieldScribe$Text"
  | 7 => .boolean
  | _ => .int
abbrev wsX110 : List Cond := u_ws RX11 TX11 9
theorem nmX11 : ∀ a, a < 9 → ∀ b, b < 9 → a ≠ b → (TX11 a).2.1 ≠ (TX11 b).2.1 := by decide +kernel
theorem tyX11_ok : ∀ k, k < 9 → parseFieldDescriptor (TX11 k).2.2.1 = some (tyX11 k) := by decide +kernel
abbrev cX11_init : ByteArray := prog_1_method_1_code
def yX11_init : MethodName := ⟨RX11, "<init>", "()V"⟩
abbrev cX11_rule : ByteArray := prog_1_method_2_code
def yX11_rule : MethodName := ⟨RX11, "rule", "(III)I"⟩
abbrev cX11_act : ByteArray := prog_1_method_3_code
def yX11_act : MethodName := ⟨RX11, "act", "(IIIIII)I"⟩
abbrev cX11_useStack : ByteArray := prog_1_method_4_code
def yX11_useStack : MethodName := ⟨RX11, "useStack", "(Z)V"⟩
abbrev cX11_setSeparator : ByteArray := prog_1_method_5_code
def yX11_setSeparator : MethodName := ⟨RX11, "setSeparator", "(I)I"⟩
abbrev cX11_type : ByteArray := prog_1_method_6_code
def yX11_type : MethodName := ⟨RX11, "type", "(I)I"⟩
abbrev cX11_end : ByteArray := prog_1_method_7_code
def yX11_end : MethodName := ⟨RX11, "end", "()I"⟩
abbrev cX11_setField : ByteArray := prog_1_method_8_code
def yX11_setField : MethodName := ⟨RX11, "setField", "(II)I"⟩
abbrev cX11_fields : ByteArray := prog_1_method_9_code
def yX11_fields : MethodName := ⟨RX11, "fields", "()I"⟩
abbrev cX11_number : ByteArray := prog_1_method_10_code
def yX11_number : MethodName := ⟨RX11, "number", "(I)I"⟩
abbrev cX11_character : ByteArray := prog_1_method_11_code
def yX11_character : MethodName := ⟨RX11, "character", "(II)C"⟩
abbrev cX11_rows : ByteArray := prog_1_method_12_code
def yX11_rows : MethodName := ⟨RX11, "rows", "()I"⟩
abbrev cX11_row : ByteArray := prog_1_method_13_code
def yX11_row : MethodName := ⟨RX11, "row", "(I)I"⟩
abbrev cX11_key : ByteArray := prog_1_method_14_code
def yX11_key : MethodName := ⟨RX11, "key", "(II)C"⟩
abbrev cX11_lines : ByteArray := prog_1_method_15_code
def yX11_lines : MethodName := ⟨RX11, "lines", "()I"⟩
abbrev cX11_line : ByteArray := prog_1_method_16_code
def yX11_line : MethodName := ⟨RX11, "line", "(II)C"⟩
abbrev cX11_faults : ByteArray := prog_1_method_17_code
def yX11_faults : MethodName := ⟨RX11, "faults", "()I"⟩
abbrev cX11_isPattern : ByteArray := prog_1_method_18_code
def yX11_isPattern : MethodName := ⟨RX11, "isPattern", "(III)Z"⟩
abbrev cX11_isField : ByteArray := prog_1_method_19_code
def yX11_isField : MethodName := ⟨RX11, "isField", "(I)Z"⟩
abbrev cX11_isNumber : ByteArray := prog_1_method_20_code
def yX11_isNumber : MethodName := ⟨RX11, "isNumber", "(I)Z"⟩
abbrev cX11_isOperand : ByteArray := prog_1_method_21_code
def yX11_isOperand : MethodName := ⟨RX11, "isOperand", "(I)Z"⟩
abbrev cX11_requireField : ByteArray := prog_1_method_22_code
def yX11_requireField : MethodName := ⟨RX11, "requireField", "(I)V"⟩
abbrev cX11_requireCode : ByteArray := prog_1_method_23_code
def yX11_requireCode : MethodName := ⟨RX11, "requireCode", "(I)V"⟩
abbrev cX11_requirePlace : ByteArray := prog_1_method_24_code
def yX11_requirePlace : MethodName := ⟨RX11, "requirePlace", "(II)V"⟩
abbrev cX11_signOf : ByteArray := prog_1_method_25_code
def yX11_signOf : MethodName := ⟨RX11, "signOf", "(I)C"⟩
abbrev cX11_signAt : ByteArray := prog_1_method_26_code
def yX11_signAt : MethodName := ⟨RX11, "signAt", "(LFieldScribe$Text;I)C"⟩
abbrev cX11_rankOf : ByteArray := prog_1_method_27_code
def yX11_rankOf : MethodName := ⟨RX11, "rankOf", "(C)I"⟩
abbrev cX11_performAll : ByteArray := prog_1_method_28_code
def yX11_performAll : MethodName := ⟨RX11, "performAll", "(Ljava/util/ArrayList;)Z"⟩
abbrev cX11_perform : ByteArray := prog_1_method_29_code
def yX11_perform : MethodName := ⟨RX11, "perform", "(LFieldScribe$Action;)Z"⟩
abbrev cX11_treeOf : ByteArray := prog_1_method_30_code
def yX11_treeOf : MethodName := ⟨RX11, "treeOf", "(III)LFieldScribe$Node;"⟩
abbrev cX11_codeOf : ByteArray := prog_1_method_31_code
def yX11_codeOf : MethodName := ⟨RX11, "codeOf", "(III)[I"⟩
abbrev cX11_combine : ByteArray := prog_1_method_32_code
def yX11_combine : MethodName := ⟨RX11, "combine", "(ILFieldScribe$Text;LFieldScribe$Text;)I"⟩
abbrev cX11_calculate : ByteArray := prog_1_method_33_code
def yX11_calculate : MethodName := ⟨RX11, "calculate", "(IJJ)J"⟩
abbrev cX11_isInt : ByteArray := prog_1_method_34_code
def yX11_isInt : MethodName := ⟨RX11, "isInt", "(J)Z"⟩
def RX12 : String := "FieldScribeModel"
def TX12 : u_T := fun k => match k with
  | 0 => ("FieldScribeModel", "separator", "I", false)
  | 1 => ("FieldScribeModel", "record", "[I", true)
  | 2 => ("FieldScribeModel", "length", "I", false)
  | 3 => ("FieldScribeModel", "fields", "I", false)
  | 4 => ("FieldScribeModel", "begins", "[I", true)
  | 5 => ("FieldScribeModel", "ends", "[I", true)
  | 6 => ("FieldScribeModel", "typed", "[I", true)
  | 7 => ("FieldScribeModel", "many", "I", false)
  | 8 => ("FieldScribeModel", "number", "I", false)
  | 9 => ("FieldScribeModel", "faults", "I", false)
  | 10 => ("FieldScribeModel", "rules", "I", false)
  | 11 => ("FieldScribeModel", "pattern", "[I", true)
  | 12 => ("FieldScribeModel", "first", "[I", true)
  | 13 => ("FieldScribeModel", "second", "[I", true)
  | 14 => ("FieldScribeModel", "isOn", "[Z", true)
  | 15 => ("FieldScribeModel", "actions", "[I", true)
  | 16 => ("FieldScribeModel", "kind", "[I", true)
  | 17 => ("FieldScribeModel", "field", "[I", true)
  | 18 => ("FieldScribeModel", "operation", "[I", true)
  | 19 => ("FieldScribeModel", "x", "[I", true)
  | 20 => ("FieldScribeModel", "y", "[I", true)
  | 21 => ("FieldScribeModel", "rows", "I", false)
  | 22 => ("FieldScribeModel", "keys", "[I", true)
  | 23 => ("FieldScribeModel", "keyLength", "[I", true)
  | 24 => ("FieldScribeModel", "sums", "[I", true)
  | 25 => ("FieldScribeModel", "lines", "I", false)
  | 26 => ("FieldScribeModel", "printed", "[I", true)
  | 27 => ("FieldScribeModel", "printedLength", "[I", true)
  | 28 => ("FieldScribeModel", "value", "[I", true)
  | 29 => ("FieldScribeModel", "valueLength", "I", false)
  | 30 => ("FieldScribeModel", "made", "[I", true)
  | 31 => ("FieldScribeModel", "madeLength", "I", false)
  | 32 => ("FieldScribeModel", "digits", "[I", true)
  | _ => ("FieldScribeModel", "thrown", "I", false)
def tyX12 : Nat → FieldType := fun k => match k with
  | 0 => .int
  | 1 => .array .int
  | 2 => .int
  | 3 => .int
  | 4 => .array .int
  | 5 => .array .int
  | 6 => .array .int
  | 7 => .int
  | 8 => .int
  | 9 => .int
  | 10 => .int
  | 11 => .array .int
  | 12 => .array .int
  | 13 => .array .int
  | 14 => .array .boolean
  | 15 => .array .int
  | 16 => .array .int
  | 17 => .array .int
  | 18 => .array .int
  | 19 => .array .int
  | 20 => .array .int
  | 21 => .int
  | 22 => .array .int
  | 23 => .array .int
  | 24 => .array .int
  | 25 => .int
  | 26 => .array .int
  | 27 => .array .int
  | 28 => .array .int
  | 29 => .int
  | 30 => .array .int
  | 31 => .int
  | 32 => .array .int
  | _ => .int
abbrev wsX120 : List Cond := u_ws RX12 TX12 34
theorem nmX12 : ∀ a, a < 34 → ∀ b, b < 34 → a ≠ b → (TX12 a).2.1 ≠ (TX12 b).2.1 := by decide +kernel
theorem tyX12_ok : ∀ k, k < 34 → parseFieldDescriptor (TX12 k).2.2.1 = some (tyX12 k) := by decide +kernel
abbrev cX12_init : ByteArray := prog_14_method_1_code
def yX12_init : MethodName := ⟨RX12, "<init>", "()V"⟩
abbrev cX12_thrown : ByteArray := prog_14_method_2_code
def yX12_thrown : MethodName := ⟨RX12, "thrown", "()I"⟩
abbrev cX12_fails : ByteArray := prog_14_method_3_code
def yX12_fails : MethodName := ⟨RX12, "fails", "(I)Z"⟩
abbrev cX12_isIn : ByteArray := prog_14_method_4_code
def yX12_isIn : MethodName := ⟨RX12, "isIn", "(III)Z"⟩
abbrev cX12_letter : ByteArray := prog_14_method_5_code
def yX12_letter : MethodName := ⟨RX12, "letter", "(I)I"⟩
abbrev cX12_isField : ByteArray := prog_14_method_6_code
def yX12_isField : MethodName := ⟨RX12, "isField", "(I)Z"⟩
abbrev cX12_from : ByteArray := prog_14_method_7_code
def yX12_from : MethodName := ⟨RX12, "from", "(I)I"⟩
abbrev cX12_to : ByteArray := prog_14_method_8_code
def yX12_to : MethodName := ⟨RX12, "to", "(I)I"⟩
abbrev cX12_cuts : ByteArray := prog_14_method_9_code
def yX12_cuts : MethodName := ⟨RX12, "cuts", "()V"⟩
abbrev cX12_adds : ByteArray := prog_14_method_10_code
def yX12_adds : MethodName := ⟨RX12, "adds", "(I)V"⟩
abbrev cX12_becomes : ByteArray := prog_14_method_11_code
def yX12_becomes : MethodName := ⟨RX12, "becomes", "()V"⟩
abbrev cX12_addsValue : ByteArray := prog_14_method_12_code
def yX12_addsValue : MethodName := ⟨RX12, "addsValue", "()V"⟩
abbrev cX12_sets : ByteArray := prog_14_method_13_code
def yX12_sets : MethodName := ⟨RX12, "sets", "(I)V"⟩
abbrev cX12_isDigit : ByteArray := prog_14_method_14_code
def yX12_isDigit : MethodName := ⟨RX12, "isDigit", "(I)Z"⟩
abbrev cX12_numeric : ByteArray := prog_14_method_15_code
def yX12_numeric : MethodName := ⟨RX12, "numeric", "(I)I"⟩
abbrev cX12_isNumeric : ByteArray := prog_14_method_16_code
def yX12_isNumeric : MethodName := ⟨RX12, "isNumeric", "(I)Z"⟩
abbrev cX12_numberOf : ByteArray := prog_14_method_17_code
def yX12_numberOf : MethodName := ⟨RX12, "numberOf", "(I)I"⟩
abbrev cX12_rank : ByteArray := prog_14_method_18_code
def yX12_rank : MethodName := ⟨RX12, "rank", "(I)I"⟩
abbrev cX12_isLess : ByteArray := prog_14_method_19_code
def yX12_isLess : MethodName := ⟨RX12, "isLess", "(II)Z"⟩
abbrev cX12_isSame : ByteArray := prog_14_method_20_code
def yX12_isSame : MethodName := ⟨RX12, "isSame", "(II)Z"⟩
abbrev cX12_writes : ByteArray := prog_14_method_21_code
def yX12_writes : MethodName := ⟨RX12, "writes", "(I)V"⟩
abbrev cX12_isOperand : ByteArray := prog_14_method_22_code
def yX12_isOperand : MethodName := ⟨RX12, "isOperand", "(I)Z"⟩
abbrev cX12_isFieldOf : ByteArray := prog_14_method_23_code
def yX12_isFieldOf : MethodName := ⟨RX12, "isFieldOf", "(I)Z"⟩
abbrev cX12_numberOfOperand : ByteArray := prog_14_method_24_code
def yX12_numberOfOperand : MethodName := ⟨RX12, "numberOfOperand", "(I)I"⟩
abbrev cX12_addsOperand : ByteArray := prog_14_method_25_code
def yX12_addsOperand : MethodName := ⟨RX12, "addsOperand", "(I)V"⟩
abbrev cX12_finds : ByteArray := prog_14_method_26_code
def yX12_finds : MethodName := ⟨RX12, "finds", "(I)I"⟩
abbrev cX12_fits : ByteArray := prog_14_method_27_code
def yX12_fits : MethodName := ⟨RX12, "fits", "(J)I"⟩
abbrev cX12_numberOfValue : ByteArray := prog_14_method_28_code
def yX12_numberOfValue : MethodName := ⟨RX12, "numberOfValue", "()I"⟩
abbrev cX12_rule : ByteArray := prog_14_method_29_code
def yX12_rule : MethodName := ⟨RX12, "rule", "(III)I"⟩
abbrev cX12_act : ByteArray := prog_14_method_30_code
def yX12_act : MethodName := ⟨RX12, "act", "(IIIIII)I"⟩
abbrev cX12_useStack : ByteArray := prog_14_method_31_code
def yX12_useStack : MethodName := ⟨RX12, "useStack", "(Z)V"⟩
abbrev cX12_setSeparator : ByteArray := prog_14_method_32_code
def yX12_setSeparator : MethodName := ⟨RX12, "setSeparator", "(I)I"⟩
abbrev cX12_type : ByteArray := prog_14_method_33_code
def yX12_type : MethodName := ⟨RX12, "type", "(I)I"⟩
abbrev cX12_isTrue : ByteArray := prog_14_method_34_code
def yX12_isTrue : MethodName := ⟨RX12, "isTrue", "(I)Z"⟩
abbrev cX12_rowOf : ByteArray := prog_14_method_35_code
def yX12_rowOf : MethodName := ⟨RX12, "rowOf", "(I)I"⟩
abbrev cX12_grows : ByteArray := prog_14_method_36_code
def yX12_grows : MethodName := ⟨RX12, "grows", "(II)V"⟩
abbrev cX12_drops : ByteArray := prog_14_method_37_code
def yX12_drops : MethodName := ⟨RX12, "drops", "(I)V"⟩
abbrev cX12_prints : ByteArray := prog_14_method_38_code
def yX12_prints : MethodName := ⟨RX12, "prints", "()V"⟩
abbrev cX12_does : ByteArray := prog_14_method_39_code
def yX12_does : MethodName := ⟨RX12, "does", "(I)V"⟩
abbrev cX12_acts : ByteArray := prog_14_method_40_code
def yX12_acts : MethodName := ⟨RX12, "acts", "(I)Z"⟩
abbrev cX12_end : ByteArray := prog_14_method_41_code
def yX12_end : MethodName := ⟨RX12, "end", "()I"⟩
abbrev cX12_setField : ByteArray := prog_14_method_42_code
def yX12_setField : MethodName := ⟨RX12, "setField", "(II)I"⟩
abbrev cX12_fields : ByteArray := prog_14_method_43_code
def yX12_fields : MethodName := ⟨RX12, "fields", "()I"⟩
abbrev cX12_number : ByteArray := prog_14_method_44_code
def yX12_number : MethodName := ⟨RX12, "number", "(I)I"⟩
abbrev cX12_character : ByteArray := prog_14_method_45_code
def yX12_character : MethodName := ⟨RX12, "character", "(II)C"⟩
abbrev cX12_rows : ByteArray := prog_14_method_46_code
def yX12_rows : MethodName := ⟨RX12, "rows", "()I"⟩
abbrev cX12_row : ByteArray := prog_14_method_47_code
def yX12_row : MethodName := ⟨RX12, "row", "(I)I"⟩
abbrev cX12_key : ByteArray := prog_14_method_48_code
def yX12_key : MethodName := ⟨RX12, "key", "(II)C"⟩
abbrev cX12_lines : ByteArray := prog_14_method_49_code
def yX12_lines : MethodName := ⟨RX12, "lines", "()I"⟩
abbrev cX12_line : ByteArray := prog_14_method_50_code
def yX12_line : MethodName := ⟨RX12, "line", "(II)C"⟩
abbrev cX12_faults : ByteArray := prog_14_method_51_code
def yX12_faults : MethodName := ⟨RX12, "faults", "()I"⟩
def RJx145de : String := "java/io/Serializable"
def TJx145de : u_T := fun k => match k with
  | _ => ("", "", "", false)
def tyJx145de : Nat → FieldType := fun k => match k with
  | _ => .int
abbrev wsJx145de0 : List Cond := u_ws RJx145de TJx145de 0
theorem nmJx145de : ∀ a, a < 0 → ∀ b, b < 0 → a ≠ b → (TJx145de a).2.1 ≠ (TJx145de b).2.1 := by decide +kernel
theorem tyJx145de_ok : ∀ k, k < 0 → parseFieldDescriptor (TJx145de k).2.2.1 = some (tyJx145de k) := by decide +kernel
def RJx8e188 : String := "java/lang/Cloneable"
def TJx8e188 : u_T := fun k => match k with
  | _ => ("", "", "", false)
def tyJx8e188 : Nat → FieldType := fun k => match k with
  | _ => .int
abbrev wsJx8e1880 : List Cond := u_ws RJx8e188 TJx8e188 0
theorem nmJx8e188 : ∀ a, a < 0 → ∀ b, b < 0 → a ≠ b → (TJx8e188 a).2.1 ≠ (TJx8e188 b).2.1 := by decide +kernel
theorem tyJx8e188_ok : ∀ k, k < 0 → parseFieldDescriptor (TJx8e188 k).2.2.1 = some (tyJx8e188 k) := by decide +kernel
def RJxab1ab : String := "java/lang/Iterable"
def TJxab1ab : u_T := fun k => match k with
  | _ => ("", "", "", false)
def tyJxab1ab : Nat → FieldType := fun k => match k with
  | _ => .int
abbrev wsJxab1ab0 : List Cond := u_ws RJxab1ab TJxab1ab 0
theorem nmJxab1ab : ∀ a, a < 0 → ∀ b, b < 0 → a ≠ b → (TJxab1ab a).2.1 ≠ (TJxab1ab b).2.1 := by decide +kernel
theorem tyJxab1ab_ok : ∀ k, k < 0 → parseFieldDescriptor (TJxab1ab k).2.2.1 = some (tyJxab1ab k) := by decide +kernel
def RJ9 : String := "java/lang/Math"
def TJ9 : u_T := fun k => match k with
  | _ => ("", "", "", false)
def tyJ9 : Nat → FieldType := fun k => match k with
  | _ => .int
abbrev wsJ90 : List Cond := u_ws RJ9 TJ9 0
theorem nmJ9 : ∀ a, a < 0 → ∀ b, b < 0 → a ≠ b → (TJ9 a).2.1 ≠ (TJ9 b).2.1 := by decide +kernel
theorem tyJ9_ok : ∀ k, k < 0 → parseFieldDescriptor (TJ9 k).2.2.1 = some (tyJ9 k) := by decide +kernel
abbrev cJ9_max_7cf53 : ByteArray := prog_22_method_65_code
def yJ9_max_7cf53 : MethodName := ⟨RJ9, "max", "(II)I"⟩
abbrev cJ9_min_7cf53 : ByteArray := prog_22_method_69_code
def yJ9_min_7cf53 : MethodName := ⟨RJ9, "min", "(II)I"⟩
def RJ0 : String := "java/lang/String"
def TJ0 : u_T := fun k => match k with
  | _ => ("", "", "", false)
def tyJ0 : Nat → FieldType := fun k => match k with
  | _ => .int
abbrev wsJ00 : List Cond := u_ws RJ0 TJ0 0
theorem nmJ0 : ∀ a, a < 0 → ∀ b, b < 0 → a ≠ b → (TJ0 a).2.1 ≠ (TJ0 b).2.1 := by decide +kernel
theorem tyJ0_ok : ∀ k, k < 0 → parseFieldDescriptor (TJ0 k).2.2.1 = some (tyJ0 k) := by decide +kernel
def RJ10 : String := "java/lang/System"
def TJ10 : u_T := fun k => match k with
  | _ => ("", "", "", false)
def tyJ10 : Nat → FieldType := fun k => match k with
  | _ => .int
abbrev wsJ100 : List Cond := u_ws RJ10 TJ10 0
theorem nmJ10 : ∀ a, a < 0 → ∀ b, b < 0 → a ≠ b → (TJ10 a).2.1 ≠ (TJ10 b).2.1 := by decide +kernel
theorem tyJ10_ok : ∀ k, k < 0 → parseFieldDescriptor (TJ10 k).2.2.1 = some (tyJ10 k) := by decide +kernel
def RJxa1e45 : String := "java/util/AbstractCollection"
def TJxa1e45 : u_T := fun k => match k with
  | _ => ("", "", "", false)
def tyJxa1e45 : Nat → FieldType := fun k => match k with
  | _ => .int
abbrev wsJxa1e450 : List Cond := u_ws RJxa1e45 TJxa1e45 0
theorem nmJxa1e45 : ∀ a, a < 0 → ∀ b, b < 0 → a ≠ b → (TJxa1e45 a).2.1 ≠ (TJxa1e45 b).2.1 := by decide +kernel
theorem tyJxa1e45_ok : ∀ k, k < 0 → parseFieldDescriptor (TJxa1e45 k).2.2.1 = some (tyJxa1e45 k) := by decide +kernel
abbrev cJxa1e45_init_da8c8 : ByteArray := prog_27_method_1_code
def yJxa1e45_init_da8c8 : MethodName := ⟨RJxa1e45, "<init>", "()V"⟩
def RJxc12de : String := "java/util/AbstractList"
def TJxc12de : u_T := fun k => match k with
  | _ => ("", "", "", false)
def tyJxc12de : Nat → FieldType := fun k => match k with
  | _ => .int
abbrev wsJxc12de0 : List Cond := u_ws RJxc12de TJxc12de 0
theorem nmJxc12de : ∀ a, a < 0 → ∀ b, b < 0 → a ≠ b → (TJxc12de a).2.1 ≠ (TJxc12de b).2.1 := by decide +kernel
theorem tyJxc12de_ok : ∀ k, k < 0 → parseFieldDescriptor (TJxc12de k).2.2.1 = some (tyJxc12de k) := by decide +kernel
abbrev cJxc12de_init_da8c8 : ByteArray := prog_28_method_1_code
def yJxc12de_init_da8c8 : MethodName := ⟨RJxc12de, "<init>", "()V"⟩
def RJx4a65c : String := "java/util/ArrayList"
def TJx4a65c : u_T := fun k => match k with
  | 0 => ("java/util/AbstractList", "modCount", "I", false)
  | 1 => ("java/util/ArrayList", "elementData", "[Ljava/lang/Object;", false)
  | _ => ("java/util/ArrayList", "size", "I", false)
def tyJx4a65c : Nat → FieldType := fun k => match k with
  | 0 => .int
  | 1 => .array (.object "java/lang/Object")
  | _ => .int
abbrev wsJx4a65c0 : List Cond := u_ws RJx4a65c TJx4a65c 3
theorem nmJx4a65c : ∀ a, a < 3 → ∀ b, b < 3 → a ≠ b → (TJx4a65c a).2.1 ≠ (TJx4a65c b).2.1 := by decide +kernel
theorem tyJx4a65c_ok : ∀ k, k < 3 → parseFieldDescriptor (TJx4a65c k).2.2.1 = some (tyJx4a65c k) := by decide +kernel
abbrev cJx4a65c_init_da8c8 : ByteArray := prog_29_method_2_code
def yJx4a65c_init_da8c8 : MethodName := ⟨RJx4a65c, "<init>", "()V"⟩
abbrev cJx4a65c_grow_92f84 : ByteArray := prog_29_method_6_code
def yJx4a65c_grow_92f84 : MethodName := ⟨RJx4a65c, "grow", "(I)[Ljava/lang/Object;"⟩
abbrev cJx4a65c_grow_d5877 : ByteArray := prog_29_method_7_code
def yJx4a65c_grow_d5877 : MethodName := ⟨RJx4a65c, "grow", "()[Ljava/lang/Object;"⟩
abbrev cJx4a65c_size_8abf5 : ByteArray := prog_29_method_8_code
def yJx4a65c_size_8abf5 : MethodName := ⟨RJx4a65c, "size", "()I"⟩
abbrev cJx4a65c_elementData_915e3 : ByteArray := prog_29_method_18_code
def yJx4a65c_elementData_915e3 : MethodName := ⟨RJx4a65c, "elementData", "(I)Ljava/lang/Object;"⟩
abbrev cJx4a65c_get_915e3 : ByteArray := prog_29_method_20_code
def yJx4a65c_get_915e3 : MethodName := ⟨RJx4a65c, "get", "(I)Ljava/lang/Object;"⟩
abbrev cJx4a65c_add_72be8 : ByteArray := prog_29_method_24_code
def yJx4a65c_add_72be8 : MethodName := ⟨RJx4a65c, "add", "(Ljava/lang/Object;[Ljava/lang/Object;I)V"⟩
abbrev cJx4a65c_add_9ea2d : ByteArray := prog_29_method_25_code
def yJx4a65c_add_9ea2d : MethodName := ⟨RJx4a65c, "add", "(Ljava/lang/Object;)Z"⟩
def RJ7 : String := "java/util/Arrays"
def TJ7 : u_T := fun k => match k with
  | _ => ("", "", "", false)
def tyJ7 : Nat → FieldType := fun k => match k with
  | _ => .int
abbrev wsJ70 : List Cond := u_ws RJ7 TJ7 0
theorem nmJ7 : ∀ a, a < 0 → ∀ b, b < 0 → a ≠ b → (TJ7 a).2.1 ≠ (TJ7 b).2.1 := by decide +kernel
theorem tyJ7_ok : ∀ k, k < 0 → parseFieldDescriptor (TJ7 k).2.2.1 = some (tyJ7 k) := by decide +kernel
abbrev cJ7_copyOf_1904c : ByteArray := prog_30_method_119_code
def yJ7_copyOf_1904c : MethodName := ⟨RJ7, "copyOf", "([Ljava/lang/Object;I)[Ljava/lang/Object;"⟩
abbrev cJ7_copyOf_6403c : ByteArray := prog_30_method_120_code
def yJ7_copyOf_6403c : MethodName := ⟨RJ7, "copyOf", "([Ljava/lang/Object;ILjava/lang/Class;)[Ljava/lang/Object;"⟩
def RJx5ef63 : String := "java/util/Collection"
def TJx5ef63 : u_T := fun k => match k with
  | _ => ("", "", "", false)
def tyJx5ef63 : Nat → FieldType := fun k => match k with
  | _ => .int
abbrev wsJx5ef630 : List Cond := u_ws RJx5ef63 TJx5ef63 0
theorem nmJx5ef63 : ∀ a, a < 0 → ∀ b, b < 0 → a ≠ b → (TJx5ef63 a).2.1 ≠ (TJx5ef63 b).2.1 := by decide +kernel
theorem tyJx5ef63_ok : ∀ k, k < 0 → parseFieldDescriptor (TJx5ef63 k).2.2.1 = some (tyJx5ef63 k) := by decide +kernel
def RJxbd725 : String := "java/util/List"
def TJxbd725 : u_T := fun k => match k with
  | _ => ("", "", "", false)
def tyJxbd725 : Nat → FieldType := fun k => match k with
  | _ => .int
abbrev wsJxbd7250 : List Cond := u_ws RJxbd725 TJxbd725 0
theorem nmJxbd725 : ∀ a, a < 0 → ∀ b, b < 0 → a ≠ b → (TJxbd725 a).2.1 ≠ (TJxbd725 b).2.1 := by decide +kernel
theorem tyJxbd725_ok : ∀ k, k < 0 → parseFieldDescriptor (TJxbd725 k).2.2.1 = some (tyJxbd725 k) := by decide +kernel
def RJ15 : String := "java/util/Objects"
def TJ15 : u_T := fun k => match k with
  | _ => ("", "", "", false)
def tyJ15 : Nat → FieldType := fun k => match k with
  | _ => .int
abbrev wsJ150 : List Cond := u_ws RJ15 TJ15 0
theorem nmJ15 : ∀ a, a < 0 → ∀ b, b < 0 → a ≠ b → (TJ15 a).2.1 ≠ (TJ15 b).2.1 := by decide +kernel
theorem tyJ15_ok : ∀ k, k < 0 → parseFieldDescriptor (TJ15 k).2.2.1 = some (tyJ15 k) := by decide +kernel
abbrev cJ15_checkIndex_7cf53 : ByteArray := prog_33_method_17_code
def yJ15_checkIndex_7cf53 : MethodName := ⟨RJ15, "checkIndex", "(II)I"⟩
def RJxf0a74 : String := "java/util/RandomAccess"
def TJxf0a74 : u_T := fun k => match k with
  | _ => ("", "", "", false)
def tyJxf0a74 : Nat → FieldType := fun k => match k with
  | _ => .int
abbrev wsJxf0a740 : List Cond := u_ws RJxf0a74 TJxf0a74 0
theorem nmJxf0a74 : ∀ a, a < 0 → ∀ b, b < 0 → a ≠ b → (TJxf0a74 a).2.1 ≠ (TJxf0a74 b).2.1 := by decide +kernel
theorem tyJxf0a74_ok : ∀ k, k < 0 → parseFieldDescriptor (TJxf0a74 k).2.2.1 = some (tyJxf0a74 k) := by decide +kernel
def RJxa66e6 : String := "java/util/SequencedCollection"
def TJxa66e6 : u_T := fun k => match k with
  | _ => ("", "", "", false)
def tyJxa66e6 : Nat → FieldType := fun k => match k with
  | _ => .int
abbrev wsJxa66e60 : List Cond := u_ws RJxa66e6 TJxa66e6 0
theorem nmJxa66e6 : ∀ a, a < 0 → ∀ b, b < 0 → a ≠ b → (TJxa66e6 a).2.1 ≠ (TJxa66e6 b).2.1 := by decide +kernel
theorem tyJxa66e6_ok : ∀ k, k < 0 → parseFieldDescriptor (TJxa66e6 k).2.2.1 = some (tyJxa66e6 k) := by decide +kernel
def RJ8 : String := "jdk/internal/util/ArraysSupport"
def TJ8 : u_T := fun k => match k with
  | _ => ("", "", "", false)
def tyJ8 : Nat → FieldType := fun k => match k with
  | _ => .int
abbrev wsJ80 : List Cond := u_ws RJ8 TJ8 0
theorem nmJ8 : ∀ a, a < 0 → ∀ b, b < 0 → a ≠ b → (TJ8 a).2.1 ≠ (TJ8 b).2.1 := by decide +kernel
theorem tyJ8_ok : ∀ k, k < 0 → parseFieldDescriptor (TJ8 k).2.2.1 = some (tyJ8 k) := by decide +kernel
abbrev cJ8_newLength_cabcc : ByteArray := prog_36_method_27_code
def yJ8_newLength_cabcc : MethodName := ⟨RJ8, "newLength", "(III)I"⟩
abbrev cJ8_hugeLength_7cf53 : ByteArray := prog_36_method_28_code
def yJ8_hugeLength_7cf53 : MethodName := ⟨RJ8, "hugeLength", "(II)I"⟩
def RJ3 : String := "jdk/internal/util/Preconditions"
def TJ3 : u_T := fun k => match k with
  | _ => ("", "", "", false)
def tyJ3 : Nat → FieldType := fun k => match k with
  | _ => .int
abbrev wsJ30 : List Cond := u_ws RJ3 TJ3 0
theorem nmJ3 : ∀ a, a < 0 → ∀ b, b < 0 → a ≠ b → (TJ3 a).2.1 ≠ (TJ3 b).2.1 := by decide +kernel
theorem tyJ3_ok : ∀ k, k < 0 → parseFieldDescriptor (TJ3 k).2.2.1 = some (tyJ3 k) := by decide +kernel
abbrev cJ3_checkIndex_8e157 : ByteArray := prog_37_method_11_code
def yJ3_checkIndex_8e157 : MethodName := ⟨RJ3, "checkIndex", "(IILjava/util/function/BiFunction;)I"⟩
def RL : String := "FieldScribeLaw"
abbrev cL_rule : ByteArray := method_3_code
def yL_rule : MethodName := ⟨RL, "rule", "(LFieldScribe;III[J)I"⟩
abbrev cL_act : ByteArray := method_4_code
def yL_act : MethodName := ⟨RL, "act", "(LFieldScribe;IIIIII[J)I"⟩
abbrev cL_setSeparator : ByteArray := method_5_code
def yL_setSeparator : MethodName := ⟨RL, "setSeparator", "(LFieldScribe;I[J)I"⟩
abbrev cL_type : ByteArray := method_6_code
def yL_type : MethodName := ⟨RL, "type", "(LFieldScribe;I[J)I"⟩
abbrev cL_setField : ByteArray := method_7_code
def yL_setField : MethodName := ⟨RL, "setField", "(LFieldScribe;II[J)I"⟩
abbrev cL_number : ByteArray := method_8_code
def yL_number : MethodName := ⟨RL, "number", "(LFieldScribe;I[J)I"⟩
abbrev cL_character : ByteArray := method_9_code
def yL_character : MethodName := ⟨RL, "character", "(LFieldScribe;II[J)I"⟩
abbrev cL_row : ByteArray := method_10_code
def yL_row : MethodName := ⟨RL, "row", "(LFieldScribe;I[J)I"⟩
abbrev cL_key : ByteArray := method_11_code
def yL_key : MethodName := ⟨RL, "key", "(LFieldScribe;II[J)I"⟩
abbrev cL_line : ByteArray := method_12_code
def yL_line : MethodName := ⟨RL, "line", "(LFieldScribe;II[J)I"⟩
abbrev cL_law : ByteArray := code
def yL_law : MethodName := ⟨RL, "law", "([I)Z"⟩
def wsX0_init : List Cond := .code yX0_init cX0_init 5 none :: ([.methodLink RX0 1 objectInit, .instanceMethod objectInit, .code objectInit ⟨#[0xb1]⟩ 1 none, .fieldLink RX0 7 "FieldScribe$Action" "kind" "I", .fieldLink RX0 13 "FieldScribe$Action" "field" "I", .fieldLink RX0 16 "FieldScribe$Action" "tree" "LFieldScribe$Node;", .fieldLink RX0 20 "FieldScribe$Action" "code" "[I"] ++ wsX00)
def wsX3_init : List Cond := .code yX3_init cX3_init 1 none :: ([.methodLink RX3 1 objectInit, .instanceMethod objectInit, .code objectInit ⟨#[0xb1]⟩ 1 none])
def wsX10_init : List Cond := .code yX10_init cX10_init 1 none :: ([.methodLink RX10 3 objectInit, .instanceMethod objectInit, .code objectInit ⟨#[0xb1]⟩ 1 none, .arrayClass .char, .fieldLink RX10 9 "FieldScribe$Text" "signs" "[C"] ++ wsX100)
def wsX1_init : List Cond := .code yX1_init cX1_init 4 none :: ([.classLink RX1 7 RX10, .instantiable RX10 2, .initialized RX10, .fieldLink RX1 10 "FieldScribe$Fork" "second" "LFieldScribe$Text;", .fieldLink RX1 16 "FieldScribe$Fork" "operation" "I", .fieldLink RX1 20 "FieldScribe$Fork" "left" "LFieldScribe$Leaf;", .fieldLink RX1 24 "FieldScribe$Fork" "right" "LFieldScribe$Leaf;", .instanceMethod yX3_init, .initialized RX3, .code yX3_init cX3_init 1 none, .methodLink RX3 1 objectInit, .instanceMethod objectInit, .code objectInit ⟨#[0xb1]⟩ 1 none, .instanceMethod yX10_init, .code yX10_init cX10_init 1 none, .methodLink RX10 3 objectInit, .arrayClass .char, .fieldLink RX10 9 "FieldScribe$Text" "signs" "[C"] ++ wsX100 ++ wsX10)
def wsX10_write : List Cond := .code yX10_write cX10_write 6 none :: ([.fieldLink RX10 15 "FieldScribe$Text" "length" "I", .fieldLink RX10 9 "FieldScribe$Text" "signs" "[C", .constantLong RX10 23 (1000000000), .constantLong RX10 25 (48), .constantLong RX10 27 (10)] ++ wsX100)
def wsX4_get : List Cond := .code yX4_get cX4_get 2 (some (.object "FieldScribe$Text")) :: ([.fieldLink RX4 18 "FieldScribe$Page" "pieces" "[LFieldScribe$Text;", .fieldLink RX4 12 "FieldScribe$Page" "whole" "LFieldScribe$Text;"] ++ wsX40)
def wsX10_copy : List Cond := .code yX10_copy cX10_copy 3 none :: ([.fieldLink RX10 15 "FieldScribe$Text" "length" "I", .fieldLink RX10 9 "FieldScribe$Text" "signs" "[C"] ++ wsX100)
def wsX4_load : List Cond := .code yX4_load cX4_load 3 none :: ([.fieldLink RX4 34 "FieldScribe$Page" "count" "I", .fieldLink RX4 71 "FieldScribe$Page" "number" "I", .methodLink RX4 68 yX10_write, .instanceMethod yX10_write, .selects RX10 yX10_write yX10_write, .initialized RX10, .code yX10_write cX10_write 6 none, .fieldLink RX10 15 "FieldScribe$Text" "length" "I", .fieldLink RX10 9 "FieldScribe$Text" "signs" "[C", .constantLong RX10 23 (1000000000), .constantLong RX10 25 (48), .constantLong RX10 27 (10), .methodLink RX4 26 yX4_get, .instanceMethod yX4_get, .selects RX4 yX4_get yX4_get, .initialized RX4, .code yX4_get cX4_get 2 (some (.object "FieldScribe$Text")), .fieldLink RX4 18 "FieldScribe$Page" "pieces" "[LFieldScribe$Text;", .fieldLink RX4 12 "FieldScribe$Page" "whole" "LFieldScribe$Text;", .methodLink RX4 30 yX10_copy, .instanceMethod yX10_copy, .selects RX10 yX10_copy yX10_copy, .code yX10_copy cX10_copy 3 none] ++ wsX40 ++ wsX100)
def wsX2_find_r1 : List Cond := [Cond.fieldLink RX2 7 "FieldScribe$Leaf" "operand" "I", Cond.methodLink RX2 13 yX4_load, Cond.instanceMethod yX4_load, Cond.selects RX4 yX4_load yX4_load, Cond.initialized RX4, Cond.code yX4_load cX4_load 3 none, Cond.fieldLink RX4 34 "FieldScribe$Page" "count" "I", Cond.fieldLink RX4 71 "FieldScribe$Page" "number" "I", Cond.methodLink RX4 68 yX10_write, Cond.instanceMethod yX10_write, Cond.selects RX10 yX10_write yX10_write, Cond.initialized RX10, Cond.code yX10_write cX10_write 6 none, Cond.fieldLink RX10 15 "FieldScribe$Text" "length" "I", Cond.fieldLink RX10 9 "FieldScribe$Text" "signs" "[C", Cond.constantLong RX10 23 (1000000000), Cond.constantLong RX10 25 (48), Cond.constantLong RX10 27 (10), Cond.methodLink RX4 26 yX4_get, Cond.instanceMethod yX4_get, Cond.selects RX4 yX4_get yX4_get, Cond.code yX4_get cX4_get 2 (some (.object "FieldScribe$Text")), Cond.fieldLink RX4 18 "FieldScribe$Page" "pieces" "[LFieldScribe$Text;", Cond.fieldLink RX4 12 "FieldScribe$Page" "whole" "LFieldScribe$Text;"]
def wsX2_find_r2 : List Cond := [Cond.methodLink RX4 30 yX10_copy, Cond.instanceMethod yX10_copy, Cond.selects RX10 yX10_copy yX10_copy, Cond.code yX10_copy cX10_copy 3 none]
def wsX2_find : List Cond := .code yX2_find cX2_find 3 (some .int) :: ((wsX2_find_r1 ++ wsX2_find_r2) ++ wsX20 ++ wsX40 ++ wsX100)
def wsX10_put : List Cond := .code yX10_put cX10_put 2 none :: ([.fieldLink RX10 15 "FieldScribe$Text" "length" "I", .fieldLink RX10 9 "FieldScribe$Text" "signs" "[C"] ++ wsX100)
def wsX10_add : List Cond := .code yX10_add cX10_add 4 none :: ([.fieldLink RX10 15 "FieldScribe$Text" "length" "I", .fieldLink RX10 9 "FieldScribe$Text" "signs" "[C", .methodLink RX10 19 yX10_put, .instanceMethod yX10_put, .selects RX10 yX10_put yX10_put, .initialized RX10, .code yX10_put cX10_put 2 none] ++ wsX100)
def wsX10_numberLength : List Cond := .code yX10_numberLength cX10_numberLength 3 (some .int) :: ([.fieldLink RX10 15 "FieldScribe$Text" "length" "I", .fieldLink RX10 9 "FieldScribe$Text" "signs" "[C"] ++ wsX100)
def wsX10_at : List Cond := .code yX10_at cX10_at 2 (some .char) :: ([.fieldLink RX10 15 "FieldScribe$Text" "length" "I", .fieldLink RX10 9 "FieldScribe$Text" "signs" "[C"] ++ wsX100)
def wsX10_asNumber : List Cond := .code yX10_asNumber cX10_asNumber 5 (some .int) :: ([.fieldLink RX10 9 "FieldScribe$Text" "signs" "[C", .methodLink RX10 29 yX10_numberLength, .instanceMethod yX10_numberLength, .selects RX10 yX10_numberLength yX10_numberLength, .initialized RX10, .code yX10_numberLength cX10_numberLength 3 (some .int), .fieldLink RX10 15 "FieldScribe$Text" "length" "I", .methodLink RX10 33 yX10_at, .instanceMethod yX10_at, .selects RX10 yX10_at yX10_at, .code yX10_at cX10_at 2 (some .char)] ++ wsX100)
def wsX11_calculate : List Cond := .code yX11_calculate cX11_calculate 5 (some .long) :: ([])
def wsX11_isInt : List Cond := .code yX11_isInt cX11_isInt 2 (some .boolean) :: ([.constantLong RX11 280 (-2147483648), .constantLong RX11 282 (2147483647)])
def wsX11_combine_r1 : List Cond := [Cond.methodLink RX11 268 yX10_add, Cond.instanceMethod yX10_add, Cond.selects RX10 yX10_add yX10_add, Cond.initialized RX10, Cond.code yX10_add cX10_add 4 none, Cond.fieldLink RX10 15 "FieldScribe$Text" "length" "I", Cond.fieldLink RX10 9 "FieldScribe$Text" "signs" "[C", Cond.methodLink RX10 19 yX10_put, Cond.instanceMethod yX10_put, Cond.selects RX10 yX10_put yX10_put, Cond.code yX10_put cX10_put 2 none, Cond.methodLink RX11 180 yX10_asNumber, Cond.instanceMethod yX10_asNumber, Cond.selects RX10 yX10_asNumber yX10_asNumber, Cond.code yX10_asNumber cX10_asNumber 5 (some .int), Cond.methodLink RX10 29 yX10_numberLength, Cond.instanceMethod yX10_numberLength, Cond.selects RX10 yX10_numberLength yX10_numberLength, Cond.code yX10_numberLength cX10_numberLength 3 (some .int), Cond.methodLink RX10 33 yX10_at, Cond.instanceMethod yX10_at, Cond.selects RX10 yX10_at yX10_at, Cond.code yX10_at cX10_at 2 (some .char), Cond.methodLink RX11 270 yX11_calculate]
def wsX11_combine_r2 : List Cond := [Cond.static yX11_calculate, Cond.initialized RX11, Cond.code yX11_calculate cX11_calculate 5 (some .long), Cond.methodLink RX11 274 yX11_isInt, Cond.static yX11_isInt, Cond.code yX11_isInt cX11_isInt 2 (some .boolean), Cond.constantLong RX11 280 (-2147483648), Cond.constantLong RX11 282 (2147483647), Cond.methodLink RX11 174 yX10_write, Cond.instanceMethod yX10_write, Cond.selects RX10 yX10_write yX10_write, Cond.code yX10_write cX10_write 6 none, Cond.constantLong RX10 23 (1000000000), Cond.constantLong RX10 25 (48), Cond.constantLong RX10 27 (10)]
def wsX11_combine : List Cond := .code yX11_combine cX11_combine 6 (some .int) :: ((wsX11_combine_r1 ++ wsX11_combine_r2) ++ wsX100)
def wsX1_find_r1 : List Cond := [Cond.fieldLink RX1 20 "FieldScribe$Fork" "left" "LFieldScribe$Leaf;", Cond.fieldLink RX1 24 "FieldScribe$Fork" "right" "LFieldScribe$Leaf;", Cond.fieldLink RX1 10 "FieldScribe$Fork" "second" "LFieldScribe$Text;", Cond.fieldLink RX1 16 "FieldScribe$Fork" "operation" "I", Cond.methodLink RX1 27 yX2_find, Cond.instanceMethod yX2_find, Cond.selects RX2 yX2_find yX2_find, Cond.initialized RX2, Cond.code yX2_find cX2_find 3 (some .int), Cond.fieldLink RX2 7 "FieldScribe$Leaf" "operand" "I", Cond.methodLink RX2 13 yX4_load, Cond.instanceMethod yX4_load, Cond.selects RX4 yX4_load yX4_load, Cond.initialized RX4, Cond.code yX4_load cX4_load 3 none, Cond.fieldLink RX4 34 "FieldScribe$Page" "count" "I", Cond.fieldLink RX4 71 "FieldScribe$Page" "number" "I", Cond.methodLink RX4 68 yX10_write, Cond.instanceMethod yX10_write, Cond.selects RX10 yX10_write yX10_write, Cond.initialized RX10, Cond.code yX10_write cX10_write 6 none, Cond.fieldLink RX10 15 "FieldScribe$Text" "length" "I", Cond.fieldLink RX10 9 "FieldScribe$Text" "signs" "[C"]
def wsX1_find_r2 : List Cond := [Cond.constantLong RX10 23 (1000000000), Cond.constantLong RX10 25 (48), Cond.constantLong RX10 27 (10), Cond.methodLink RX4 26 yX4_get, Cond.instanceMethod yX4_get, Cond.selects RX4 yX4_get yX4_get, Cond.code yX4_get cX4_get 2 (some (.object "FieldScribe$Text")), Cond.fieldLink RX4 18 "FieldScribe$Page" "pieces" "[LFieldScribe$Text;", Cond.fieldLink RX4 12 "FieldScribe$Page" "whole" "LFieldScribe$Text;", Cond.methodLink RX4 30 yX10_copy, Cond.instanceMethod yX10_copy, Cond.selects RX10 yX10_copy yX10_copy, Cond.code yX10_copy cX10_copy 3 none, Cond.static yX11_combine, Cond.initialized RX11, Cond.code yX11_combine cX11_combine 6 (some .int), Cond.methodLink RX11 268 yX10_add, Cond.instanceMethod yX10_add, Cond.selects RX10 yX10_add yX10_add, Cond.code yX10_add cX10_add 4 none, Cond.methodLink RX10 19 yX10_put, Cond.instanceMethod yX10_put, Cond.selects RX10 yX10_put yX10_put, Cond.code yX10_put cX10_put 2 none]
def wsX1_find_r3 : List Cond := [Cond.methodLink RX11 180 yX10_asNumber, Cond.instanceMethod yX10_asNumber, Cond.selects RX10 yX10_asNumber yX10_asNumber, Cond.code yX10_asNumber cX10_asNumber 5 (some .int), Cond.methodLink RX10 29 yX10_numberLength, Cond.instanceMethod yX10_numberLength, Cond.selects RX10 yX10_numberLength yX10_numberLength, Cond.code yX10_numberLength cX10_numberLength 3 (some .int), Cond.methodLink RX10 33 yX10_at, Cond.instanceMethod yX10_at, Cond.selects RX10 yX10_at yX10_at, Cond.code yX10_at cX10_at 2 (some .char), Cond.methodLink RX11 270 yX11_calculate, Cond.static yX11_calculate, Cond.code yX11_calculate cX11_calculate 5 (some .long), Cond.methodLink RX11 274 yX11_isInt, Cond.static yX11_isInt, Cond.code yX11_isInt cX11_isInt 2 (some .boolean), Cond.constantLong RX11 280 (-2147483648), Cond.constantLong RX11 282 (2147483647), Cond.methodLink RX11 174 yX10_write]
def wsX1_find : List Cond := .code yX1_find cX1_find 4 (some .int) :: ((wsX1_find_r1 ++ (wsX1_find_r2 ++ wsX1_find_r3)) ++ wsX10 ++ wsX20 ++ wsX40 ++ wsX100)
def wsX2_init : List Cond := .code yX2_init cX2_init 2 none :: ([.fieldLink RX2 7 "FieldScribe$Leaf" "operand" "I", .instanceMethod yX3_init, .initialized RX3, .code yX3_init cX3_init 1 none, .methodLink RX3 1 objectInit, .instanceMethod objectInit, .code objectInit ⟨#[0xb1]⟩ 1 none] ++ wsX20)
def wsX4_init : List Cond := .code yX4_init cX4_init 2 none :: ([.methodLink RX4 3 objectInit, .instanceMethod objectInit, .code objectInit ⟨#[0xb1]⟩ 1 none, .classLink RX4 9 RX10, .instantiable RX10 2, .initialized RX10, .fieldLink RX4 12 "FieldScribe$Page" "whole" "LFieldScribe$Text;", .fieldLink RX4 18 "FieldScribe$Page" "pieces" "[LFieldScribe$Text;", .fieldLink RX4 22 "FieldScribe$Page" "separator" "C", .instanceMethod yX10_init, .code yX10_init cX10_init 1 none, .methodLink RX10 3 objectInit, .arrayClass .char, .fieldLink RX10 9 "FieldScribe$Text" "signs" "[C"] ++ wsX100 ++ wsX40)
def wsX10_clear : List Cond := .code yX10_clear cX10_clear 1 none :: ([.fieldLink RX10 15 "FieldScribe$Text" "length" "I"] ++ wsX100)
def wsX4_join : List Cond := .code yX4_join cX4_join 3 none :: ([.fieldLink RX4 12 "FieldScribe$Page" "whole" "LFieldScribe$Text;", .fieldLink RX4 22 "FieldScribe$Page" "separator" "C", .methodLink RX4 51 yX10_clear, .instanceMethod yX10_clear, .selects RX10 yX10_clear yX10_clear, .initialized RX10, .code yX10_clear cX10_clear 1 none, .fieldLink RX10 15 "FieldScribe$Text" "length" "I", .methodLink RX4 54 yX10_put, .instanceMethod yX10_put, .selects RX10 yX10_put yX10_put, .code yX10_put cX10_put 2 none, .fieldLink RX10 9 "FieldScribe$Text" "signs" "[C", .methodLink RX4 26 yX4_get, .instanceMethod yX4_get, .selects RX4 yX4_get yX4_get, .initialized RX4, .code yX4_get cX4_get 2 (some (.object "FieldScribe$Text")), .fieldLink RX4 18 "FieldScribe$Page" "pieces" "[LFieldScribe$Text;", .methodLink RX4 58 yX10_add, .instanceMethod yX10_add, .selects RX10 yX10_add yX10_add, .code yX10_add cX10_add 4 none, .methodLink RX10 19 yX10_put] ++ wsX40 ++ wsX100)
def wsX4_cut : List Cond := .code yX4_cut cX4_cut 3 none :: ([.fieldLink RX4 18 "FieldScribe$Page" "pieces" "[LFieldScribe$Text;", .fieldLink RX4 12 "FieldScribe$Page" "whole" "LFieldScribe$Text;", .fieldLink RX4 34 "FieldScribe$Page" "count" "I", .fieldLink RX4 22 "FieldScribe$Page" "separator" "C", .methodLink RX4 51 yX10_clear, .instanceMethod yX10_clear, .selects RX10 yX10_clear yX10_clear, .initialized RX10, .code yX10_clear cX10_clear 1 none, .fieldLink RX10 15 "FieldScribe$Text" "length" "I", .methodLink RX4 64 yX10_at, .instanceMethod yX10_at, .selects RX10 yX10_at yX10_at, .code yX10_at cX10_at 2 (some .char), .fieldLink RX10 9 "FieldScribe$Text" "signs" "[C", .methodLink RX4 26 yX4_get, .instanceMethod yX4_get, .selects RX4 yX4_get yX4_get, .initialized RX4, .code yX4_get cX4_get 2 (some (.object "FieldScribe$Text")), .methodLink RX4 54 yX10_put, .instanceMethod yX10_put, .selects RX10 yX10_put yX10_put, .code yX10_put cX10_put 2 none] ++ wsX40 ++ wsX100)
def wsX4_set_r1 : List Cond := [Cond.fieldLink RX4 34 "FieldScribe$Page" "count" "I", Cond.methodLink RX4 38 Lib.Math.max.name, Cond.static Lib.Math.max.name, Cond.initialized "java/lang/Math", Cond.code Lib.Math.max.name Lib.Math.max.code 2 (some .int), Cond.methodLink RX4 26 yX4_get, Cond.instanceMethod yX4_get, Cond.selects RX4 yX4_get yX4_get, Cond.initialized RX4, Cond.code yX4_get cX4_get 2 (some (.object "FieldScribe$Text")), Cond.fieldLink RX4 18 "FieldScribe$Page" "pieces" "[LFieldScribe$Text;", Cond.fieldLink RX4 12 "FieldScribe$Page" "whole" "LFieldScribe$Text;", Cond.methodLink RX4 30 yX10_copy, Cond.instanceMethod yX10_copy, Cond.selects RX10 yX10_copy yX10_copy, Cond.initialized RX10, Cond.code yX10_copy cX10_copy 3 none, Cond.fieldLink RX10 15 "FieldScribe$Text" "length" "I", Cond.fieldLink RX10 9 "FieldScribe$Text" "signs" "[C", Cond.methodLink RX4 44 yX4_join, Cond.instanceMethod yX4_join, Cond.selects RX4 yX4_join yX4_join, Cond.code yX4_join cX4_join 3 none, Cond.fieldLink RX4 22 "FieldScribe$Page" "separator" "C"]
def wsX4_set_r2 : List Cond := [Cond.methodLink RX4 51 yX10_clear, Cond.instanceMethod yX10_clear, Cond.selects RX10 yX10_clear yX10_clear, Cond.code yX10_clear cX10_clear 1 none, Cond.methodLink RX4 54 yX10_put, Cond.instanceMethod yX10_put, Cond.selects RX10 yX10_put yX10_put, Cond.code yX10_put cX10_put 2 none, Cond.methodLink RX4 58 yX10_add, Cond.instanceMethod yX10_add, Cond.selects RX10 yX10_add yX10_add, Cond.code yX10_add cX10_add 4 none, Cond.methodLink RX10 19 yX10_put, Cond.methodLink RX4 48 yX4_cut, Cond.instanceMethod yX4_cut, Cond.selects RX4 yX4_cut yX4_cut, Cond.code yX4_cut cX4_cut 3 none, Cond.methodLink RX4 64 yX10_at, Cond.instanceMethod yX10_at, Cond.selects RX10 yX10_at yX10_at, Cond.code yX10_at cX10_at 2 (some .char)]
def wsX4_set : List Cond := .code yX4_set cX4_set 3 none :: ((wsX4_set_r1 ++ wsX4_set_r2) ++ wsX40 ++ wsX100)
def wsX5_init : List Cond := .code yX5_init cX5_init 2 none :: ([.methodLink RX5 3 objectInit, .instanceMethod objectInit, .code objectInit ⟨#[0xb1]⟩ 1 none, .classLink RX5 9 RX10, .fieldLink RX5 11 "FieldScribe$Printout" "ring" "[LFieldScribe$Text;", .instantiable RX10 2, .initialized RX10, .instanceMethod yX10_init, .code yX10_init cX10_init 1 none, .methodLink RX10 3 objectInit, .arrayClass .char, .fieldLink RX10 9 "FieldScribe$Text" "signs" "[C"] ++ wsX50 ++ wsX100)
def wsX5_get : List Cond := .code yX5_get cX5_get 3 (some (.object "FieldScribe$Text")) :: ([.fieldLink RX5 18 "FieldScribe$Printout" "start" "I", .fieldLink RX5 11 "FieldScribe$Printout" "ring" "[LFieldScribe$Text;"] ++ wsX50)
def wsX5_print : List Cond := .code yX5_print cX5_print 2 none :: ([.fieldLink RX5 22 "FieldScribe$Printout" "count" "I", .fieldLink RX5 11 "FieldScribe$Printout" "ring" "[LFieldScribe$Text;", .fieldLink RX5 18 "FieldScribe$Printout" "start" "I", .methodLink RX5 25 yX5_get, .instanceMethod yX5_get, .selects RX5 yX5_get yX5_get, .initialized RX5, .code yX5_get cX5_get 3 (some (.object "FieldScribe$Text")), .methodLink RX5 29 yX10_copy, .instanceMethod yX10_copy, .selects RX10 yX10_copy yX10_copy, .initialized RX10, .code yX10_copy cX10_copy 3 none, .fieldLink RX10 15 "FieldScribe$Text" "length" "I", .fieldLink RX10 9 "FieldScribe$Text" "signs" "[C"] ++ wsX50 ++ wsX100)
def wsX6_init : List Cond := .code yX6_init cX6_init 1 none :: ([.methodLink RX6 1 objectInit, .instanceMethod objectInit, .code objectInit ⟨#[0xb1]⟩ 1 none, .classLink RX6 7 RX10, .instantiable RX10 2, .initialized RX10, .fieldLink RX6 10 "FieldScribe$Row" "name" "LFieldScribe$Text;", .instanceMethod yX10_init, .code yX10_init cX10_init 1 none, .methodLink RX10 3 objectInit, .arrayClass .char, .fieldLink RX10 9 "FieldScribe$Text" "signs" "[C"] ++ wsX100 ++ wsX60)
def wsJxa1e45_init_da8c8 : List Cond := .code yJxa1e45_init_da8c8 cJxa1e45_init_da8c8 1 none :: ([.methodLink RJxa1e45 1 objectInit, .instanceMethod objectInit, .code objectInit ⟨#[0xb1]⟩ 1 none])
def wsJxc12de_init_da8c8 : List Cond := .code yJxc12de_init_da8c8 cJxc12de_init_da8c8 1 none :: ([.fieldLink RJxc12de 7 "java/util/AbstractList" "modCount" "I", .methodLink RJxc12de 1 yJxa1e45_init_da8c8, .instanceMethod yJxa1e45_init_da8c8, .initialized RJxa1e45, .code yJxa1e45_init_da8c8 cJxa1e45_init_da8c8 1 none, .methodLink RJxa1e45 1 objectInit, .instanceMethod objectInit, .code objectInit ⟨#[0xb1]⟩ 1 none] ++ wsJx4a65c0)
def wsJx4a65c_init_da8c8 : List Cond := .code yJx4a65c_init_da8c8 cJx4a65c_init_da8c8 1 none :: ([.fieldLink RJx4a65c 39 "java/util/ArrayList" "DEFAULTCAPACITY_EMPTY_ELEMENTDATA" "[Ljava/lang/Object;", .fieldLink RJx4a65c 9 "java/util/ArrayList" "elementData" "[Ljava/lang/Object;", .methodLink RJx4a65c 1 yJxc12de_init_da8c8, .instanceMethod yJxc12de_init_da8c8, .initialized RJxc12de, .code yJxc12de_init_da8c8 cJxc12de_init_da8c8 1 none, .fieldLink RJxc12de 7 "java/util/AbstractList" "modCount" "I", .methodLink RJxc12de 1 yJxa1e45_init_da8c8, .instanceMethod yJxa1e45_init_da8c8, .initialized RJxa1e45, .code yJxa1e45_init_da8c8 cJxa1e45_init_da8c8 1 none, .methodLink RJxa1e45 1 objectInit, .instanceMethod objectInit, .code objectInit ⟨#[0xb1]⟩ 1 none] ++ wsJx4a65c0)
def wsX7_init_r1 : List Cond := [Cond.methodLink RX7 3 objectInit, Cond.instanceMethod objectInit, Cond.code objectInit ⟨#[0xb1]⟩ 1 none, Cond.classLink RX7 9 RJx4a65c, Cond.instantiable RJx4a65c 3, Cond.initialized RJx4a65c, Cond.fieldLink RX7 12 "FieldScribe$Rule" "actions" "Ljava/util/ArrayList;", Cond.fieldLink RX7 18 "FieldScribe$Rule" "pattern" "I", Cond.fieldLink RX7 22 "FieldScribe$Rule" "a" "I", Cond.fieldLink RX7 25 "FieldScribe$Rule" "b" "I", Cond.methodLink RX7 11 yJx4a65c_init_da8c8, Cond.instanceMethod yJx4a65c_init_da8c8, Cond.code yJx4a65c_init_da8c8 cJx4a65c_init_da8c8 1 none, Cond.fieldLink RJx4a65c 39 "java/util/ArrayList" "DEFAULTCAPACITY_EMPTY_ELEMENTDATA" "[Ljava/lang/Object;", Cond.fieldLink RJx4a65c 9 "java/util/ArrayList" "elementData" "[Ljava/lang/Object;", Cond.methodLink RJx4a65c 1 yJxc12de_init_da8c8, Cond.instanceMethod yJxc12de_init_da8c8, Cond.initialized RJxc12de, Cond.code yJxc12de_init_da8c8 cJxc12de_init_da8c8 1 none, Cond.fieldLink RJxc12de 7 "java/util/AbstractList" "modCount" "I", Cond.methodLink RJxc12de 1 yJxa1e45_init_da8c8, Cond.instanceMethod yJxa1e45_init_da8c8, Cond.initialized RJxa1e45, Cond.code yJxa1e45_init_da8c8 cJxa1e45_init_da8c8 1 none]
def wsX7_init_r2 : List Cond := [Cond.methodLink RJxa1e45 1 objectInit]
def wsX7_init : List Cond := .code yX7_init cX7_init 4 none :: ((wsX7_init_r1 ++ wsX7_init_r2) ++ wsJx4a65c0 ++ wsX70)
def wsX10_isNumeric : List Cond := .code yX10_isNumeric cX10_isNumeric 1 (some .boolean) :: ([.fieldLink RX10 15 "FieldScribe$Text" "length" "I", .methodLink RX10 29 yX10_numberLength, .instanceMethod yX10_numberLength, .selects RX10 yX10_numberLength yX10_numberLength, .initialized RX10, .code yX10_numberLength cX10_numberLength 3 (some .int), .fieldLink RX10 9 "FieldScribe$Text" "signs" "[C"] ++ wsX100)
def wsX10_isSameAs : List Cond := .code yX10_isSameAs cX10_isSameAs 2 (some .boolean) :: ([.methodLink RX10 37 yX10_isNumeric, .instanceMethod yX10_isNumeric, .selects RX10 yX10_isNumeric yX10_isNumeric, .initialized RX10, .code yX10_isNumeric cX10_isNumeric 1 (some .boolean), .fieldLink RX10 15 "FieldScribe$Text" "length" "I", .methodLink RX10 29 yX10_numberLength, .instanceMethod yX10_numberLength, .selects RX10 yX10_numberLength yX10_numberLength, .code yX10_numberLength cX10_numberLength 3 (some .int), .fieldLink RX10 9 "FieldScribe$Text" "signs" "[C", .methodLink RX10 41 yX10_asNumber, .instanceMethod yX10_asNumber, .selects RX10 yX10_asNumber yX10_asNumber, .code yX10_asNumber cX10_asNumber 5 (some .int), .methodLink RX10 33 yX10_at, .instanceMethod yX10_at, .selects RX10 yX10_at yX10_at, .code yX10_at cX10_at 2 (some .char)] ++ wsX100)
def wsX10_firstDifference : List Cond := .code yX10_firstDifference cX10_firstDifference 3 (some .int) :: ([.fieldLink RX10 15 "FieldScribe$Text" "length" "I", .fieldLink RX10 9 "FieldScribe$Text" "signs" "[C"] ++ wsX100)
def wsX11_rankOf : List Cond := .code yX11_rankOf cX11_rankOf 1 (some .int) :: ([])
def wsX10_isLessThan_r1 : List Cond := [Cond.fieldLink RX10 15 "FieldScribe$Text" "length" "I", Cond.fieldLink RX10 9 "FieldScribe$Text" "signs" "[C", Cond.methodLink RX10 37 yX10_isNumeric, Cond.instanceMethod yX10_isNumeric, Cond.selects RX10 yX10_isNumeric yX10_isNumeric, Cond.initialized RX10, Cond.code yX10_isNumeric cX10_isNumeric 1 (some .boolean), Cond.methodLink RX10 29 yX10_numberLength, Cond.instanceMethod yX10_numberLength, Cond.selects RX10 yX10_numberLength yX10_numberLength, Cond.code yX10_numberLength cX10_numberLength 3 (some .int), Cond.methodLink RX10 41 yX10_asNumber, Cond.instanceMethod yX10_asNumber, Cond.selects RX10 yX10_asNumber yX10_asNumber, Cond.code yX10_asNumber cX10_asNumber 5 (some .int), Cond.methodLink RX10 33 yX10_at, Cond.instanceMethod yX10_at, Cond.selects RX10 yX10_at yX10_at, Cond.code yX10_at cX10_at 2 (some .char), Cond.methodLink RX10 44 yX10_firstDifference, Cond.instanceMethod yX10_firstDifference, Cond.selects RX10 yX10_firstDifference yX10_firstDifference, Cond.code yX10_firstDifference cX10_firstDifference 3 (some .int), Cond.static yX11_rankOf]
def wsX10_isLessThan_r2 : List Cond := [Cond.initialized RX11, Cond.code yX11_rankOf cX11_rankOf 1 (some .int)]
def wsX10_isLessThan : List Cond := .code yX10_isLessThan cX10_isLessThan 3 (some .boolean) :: ((wsX10_isLessThan_r1 ++ wsX10_isLessThan_r2) ++ wsX100)
def wsX7_isInRange_r1 : List Cond := [Cond.fieldLink RX7 47 "FieldScribe$Rule" "open" "Z", Cond.fieldLink RX7 22 "FieldScribe$Rule" "a" "I", Cond.fieldLink RX7 25 "FieldScribe$Rule" "b" "I", Cond.methodLink RX7 34 yX10_isSameAs, Cond.instanceMethod yX10_isSameAs, Cond.selects RX10 yX10_isSameAs yX10_isSameAs, Cond.initialized RX10, Cond.code yX10_isSameAs cX10_isSameAs 2 (some .boolean), Cond.methodLink RX10 37 yX10_isNumeric, Cond.instanceMethod yX10_isNumeric, Cond.selects RX10 yX10_isNumeric yX10_isNumeric, Cond.code yX10_isNumeric cX10_isNumeric 1 (some .boolean), Cond.fieldLink RX10 15 "FieldScribe$Text" "length" "I", Cond.methodLink RX10 29 yX10_numberLength, Cond.instanceMethod yX10_numberLength, Cond.selects RX10 yX10_numberLength yX10_numberLength, Cond.code yX10_numberLength cX10_numberLength 3 (some .int), Cond.fieldLink RX10 9 "FieldScribe$Text" "signs" "[C", Cond.methodLink RX10 41 yX10_asNumber, Cond.instanceMethod yX10_asNumber, Cond.selects RX10 yX10_asNumber yX10_asNumber, Cond.code yX10_asNumber cX10_asNumber 5 (some .int), Cond.methodLink RX10 33 yX10_at, Cond.instanceMethod yX10_at]
def wsX7_isInRange_r2 : List Cond := [Cond.selects RX10 yX10_at yX10_at, Cond.code yX10_at cX10_at 2 (some .char)]
def wsX7_isInRange : List Cond := .code yX7_isInRange cX7_isInRange 2 (some .boolean) :: ((wsX7_isInRange_r1 ++ wsX7_isInRange_r2) ++ wsX70 ++ wsX100)
def wsX7_isTrue_r1 : List Cond := [Cond.fieldLink RX7 18 "FieldScribe$Rule" "pattern" "I", Cond.fieldLink RX7 22 "FieldScribe$Rule" "a" "I", Cond.fieldLink RX7 25 "FieldScribe$Rule" "b" "I", Cond.methodLink RX7 28 yX4_get, Cond.instanceMethod yX4_get, Cond.selects RX4 yX4_get yX4_get, Cond.initialized RX4, Cond.code yX4_get cX4_get 2 (some (.object "FieldScribe$Text")), Cond.fieldLink RX4 18 "FieldScribe$Page" "pieces" "[LFieldScribe$Text;", Cond.fieldLink RX4 12 "FieldScribe$Page" "whole" "LFieldScribe$Text;", Cond.methodLink RX7 34 yX10_isSameAs, Cond.instanceMethod yX10_isSameAs, Cond.selects RX10 yX10_isSameAs yX10_isSameAs, Cond.initialized RX10, Cond.code yX10_isSameAs cX10_isSameAs 2 (some .boolean), Cond.methodLink RX10 37 yX10_isNumeric, Cond.instanceMethod yX10_isNumeric, Cond.selects RX10 yX10_isNumeric yX10_isNumeric, Cond.code yX10_isNumeric cX10_isNumeric 1 (some .boolean), Cond.fieldLink RX10 15 "FieldScribe$Text" "length" "I", Cond.methodLink RX10 29 yX10_numberLength, Cond.instanceMethod yX10_numberLength, Cond.selects RX10 yX10_numberLength yX10_numberLength, Cond.code yX10_numberLength cX10_numberLength 3 (some .int)]
def wsX7_isTrue_r2 : List Cond := [Cond.fieldLink RX10 9 "FieldScribe$Text" "signs" "[C", Cond.methodLink RX10 41 yX10_asNumber, Cond.instanceMethod yX10_asNumber, Cond.selects RX10 yX10_asNumber yX10_asNumber, Cond.code yX10_asNumber cX10_asNumber 5 (some .int), Cond.methodLink RX10 33 yX10_at, Cond.instanceMethod yX10_at, Cond.selects RX10 yX10_at yX10_at, Cond.code yX10_at cX10_at 2 (some .char), Cond.methodLink RX7 40 yX10_isLessThan, Cond.instanceMethod yX10_isLessThan, Cond.selects RX10 yX10_isLessThan yX10_isLessThan, Cond.code yX10_isLessThan cX10_isLessThan 3 (some .boolean), Cond.methodLink RX10 44 yX10_firstDifference, Cond.instanceMethod yX10_firstDifference, Cond.selects RX10 yX10_firstDifference yX10_firstDifference, Cond.code yX10_firstDifference cX10_firstDifference 3 (some .int), Cond.static yX11_rankOf, Cond.initialized RX11, Cond.code yX11_rankOf cX11_rankOf 1 (some .int), Cond.methodLink RX7 44 yX7_isInRange, Cond.instanceMethod yX7_isInRange, Cond.selects RX7 yX7_isInRange yX7_isInRange, Cond.initialized RX7]
def wsX7_isTrue_r3 : List Cond := [Cond.code yX7_isInRange cX7_isInRange 2 (some .boolean), Cond.fieldLink RX7 47 "FieldScribe$Rule" "open" "Z"]
def wsX7_isTrue : List Cond := .code yX7_isTrue cX7_isTrue 2 (some .boolean) :: ((wsX7_isTrue_r1 ++ (wsX7_isTrue_r2 ++ wsX7_isTrue_r3)) ++ wsX70 ++ wsX40 ++ wsX100)
def wsX8_init : List Cond := .code yX8_init cX8_init 2 none :: ([.methodLink RX8 3 objectInit, .instanceMethod objectInit, .code objectInit ⟨#[0xb1]⟩ 1 none, .classLink RX8 11 RX10, .fieldLink RX8 13 "FieldScribe$StackMachine" "stack" "[LFieldScribe$Text;", .instantiable RX10 2, .initialized RX10, .instanceMethod yX10_init, .code yX10_init cX10_init 1 none, .methodLink RX10 3 objectInit, .arrayClass .char, .fieldLink RX10 9 "FieldScribe$Text" "signs" "[C"] ++ wsX80 ++ wsX100)
def wsX8_run_r1 : List Cond := [Cond.fieldLink RX8 13 "FieldScribe$StackMachine" "stack" "[LFieldScribe$Text;", Cond.methodLink RX8 18 yX4_load, Cond.instanceMethod yX4_load, Cond.selects RX4 yX4_load yX4_load, Cond.initialized RX4, Cond.code yX4_load cX4_load 3 none, Cond.fieldLink RX4 34 "FieldScribe$Page" "count" "I", Cond.fieldLink RX4 71 "FieldScribe$Page" "number" "I", Cond.methodLink RX4 68 yX10_write, Cond.instanceMethod yX10_write, Cond.selects RX10 yX10_write yX10_write, Cond.initialized RX10, Cond.code yX10_write cX10_write 6 none, Cond.fieldLink RX10 15 "FieldScribe$Text" "length" "I", Cond.fieldLink RX10 9 "FieldScribe$Text" "signs" "[C", Cond.constantLong RX10 23 (1000000000), Cond.constantLong RX10 25 (48), Cond.constantLong RX10 27 (10), Cond.methodLink RX4 26 yX4_get, Cond.instanceMethod yX4_get, Cond.selects RX4 yX4_get yX4_get, Cond.code yX4_get cX4_get 2 (some (.object "FieldScribe$Text")), Cond.fieldLink RX4 18 "FieldScribe$Page" "pieces" "[LFieldScribe$Text;", Cond.fieldLink RX4 12 "FieldScribe$Page" "whole" "LFieldScribe$Text;"]
def wsX8_run_r2 : List Cond := [Cond.methodLink RX4 30 yX10_copy, Cond.instanceMethod yX10_copy, Cond.selects RX10 yX10_copy yX10_copy, Cond.code yX10_copy cX10_copy 3 none, Cond.static yX11_combine, Cond.initialized RX11, Cond.code yX11_combine cX11_combine 6 (some .int), Cond.methodLink RX11 268 yX10_add, Cond.instanceMethod yX10_add, Cond.selects RX10 yX10_add yX10_add, Cond.code yX10_add cX10_add 4 none, Cond.methodLink RX10 19 yX10_put, Cond.instanceMethod yX10_put, Cond.selects RX10 yX10_put yX10_put, Cond.code yX10_put cX10_put 2 none, Cond.methodLink RX11 180 yX10_asNumber, Cond.instanceMethod yX10_asNumber, Cond.selects RX10 yX10_asNumber yX10_asNumber, Cond.code yX10_asNumber cX10_asNumber 5 (some .int), Cond.methodLink RX10 29 yX10_numberLength, Cond.instanceMethod yX10_numberLength, Cond.selects RX10 yX10_numberLength yX10_numberLength, Cond.code yX10_numberLength cX10_numberLength 3 (some .int), Cond.methodLink RX10 33 yX10_at]
def wsX8_run_r3 : List Cond := [Cond.instanceMethod yX10_at, Cond.selects RX10 yX10_at yX10_at, Cond.code yX10_at cX10_at 2 (some .char), Cond.methodLink RX11 270 yX11_calculate, Cond.static yX11_calculate, Cond.code yX11_calculate cX11_calculate 5 (some .long), Cond.methodLink RX11 274 yX11_isInt, Cond.static yX11_isInt, Cond.code yX11_isInt cX11_isInt 2 (some .boolean), Cond.constantLong RX11 280 (-2147483648), Cond.constantLong RX11 282 (2147483647), Cond.methodLink RX11 174 yX10_write, Cond.methodLink RX8 28 yX10_copy]
def wsX8_run : List Cond := .code yX8_run cX8_run 7 (some .int) :: ((wsX8_run_r1 ++ (wsX8_run_r2 ++ wsX8_run_r3)) ++ wsX80 ++ wsX40 ++ wsX100)
def wsX9_init : List Cond := .code yX9_init cX9_init 2 none :: ([.methodLink RX9 3 objectInit, .instanceMethod objectInit, .code objectInit ⟨#[0xb1]⟩ 1 none, .classLink RX9 9 RX6, .fieldLink RX9 11 "FieldScribe$Table" "all" "[LFieldScribe$Row;", .instantiable RX6 2, .initialized RX6, .instanceMethod yX6_init, .code yX6_init cX6_init 1 none, .methodLink RX6 1 objectInit, .classLink RX6 7 RX10, .instantiable RX10 2, .initialized RX10, .fieldLink RX6 10 "FieldScribe$Row" "name" "LFieldScribe$Text;", .instanceMethod yX10_init, .code yX10_init cX10_init 1 none, .methodLink RX10 3 objectInit, .arrayClass .char, .fieldLink RX10 9 "FieldScribe$Text" "signs" "[C"] ++ wsX90 ++ wsX60 ++ wsX100)
def wsX9_get : List Cond := .code yX9_get cX9_get 2 (some (.object "FieldScribe$Row")) :: ([.fieldLink RX9 11 "FieldScribe$Table" "all" "[LFieldScribe$Row;"] ++ wsX90)
def wsX10_hasSignsOf : List Cond := .code yX10_hasSignsOf cX10_hasSignsOf 2 (some .boolean) :: ([.fieldLink RX10 15 "FieldScribe$Text" "length" "I", .methodLink RX10 44 yX10_firstDifference, .instanceMethod yX10_firstDifference, .selects RX10 yX10_firstDifference yX10_firstDifference, .initialized RX10, .code yX10_firstDifference cX10_firstDifference 3 (some .int), .fieldLink RX10 9 "FieldScribe$Text" "signs" "[C"] ++ wsX100)
def wsX9_find : List Cond := .code yX9_find cX9_find 3 (some .int) :: ([.fieldLink RX9 18 "FieldScribe$Table" "count" "I", .methodLink RX9 22 yX9_get, .instanceMethod yX9_get, .selects RX9 yX9_get yX9_get, .initialized RX9, .code yX9_get cX9_get 2 (some (.object "FieldScribe$Row")), .fieldLink RX9 11 "FieldScribe$Table" "all" "[LFieldScribe$Row;", .methodLink RX9 30 yX10_hasSignsOf, .instanceMethod yX10_hasSignsOf, .selects RX10 yX10_hasSignsOf yX10_hasSignsOf, .initialized RX10, .code yX10_hasSignsOf cX10_hasSignsOf 2 (some .boolean), .fieldLink RX10 15 "FieldScribe$Text" "length" "I", .methodLink RX10 44 yX10_firstDifference, .instanceMethod yX10_firstDifference, .selects RX10 yX10_firstDifference yX10_firstDifference, .code yX10_firstDifference cX10_firstDifference 3 (some .int), .fieldLink RX10 9 "FieldScribe$Text" "signs" "[C"] ++ wsX90 ++ wsX60 ++ wsX100)
def wsX9_grow_r1 : List Cond := [Cond.fieldLink RX9 11 "FieldScribe$Table" "all" "[LFieldScribe$Row;", Cond.fieldLink RX9 18 "FieldScribe$Table" "count" "I", Cond.methodLink RX9 36 yX9_find, Cond.instanceMethod yX9_find, Cond.selects RX9 yX9_find yX9_find, Cond.initialized RX9, Cond.code yX9_find cX9_find 3 (some .int), Cond.methodLink RX9 22 yX9_get, Cond.instanceMethod yX9_get, Cond.selects RX9 yX9_get yX9_get, Cond.code yX9_get cX9_get 2 (some (.object "FieldScribe$Row")), Cond.methodLink RX9 30 yX10_hasSignsOf, Cond.instanceMethod yX10_hasSignsOf, Cond.selects RX10 yX10_hasSignsOf yX10_hasSignsOf, Cond.initialized RX10, Cond.code yX10_hasSignsOf cX10_hasSignsOf 2 (some .boolean), Cond.fieldLink RX10 15 "FieldScribe$Text" "length" "I", Cond.methodLink RX10 44 yX10_firstDifference, Cond.instanceMethod yX10_firstDifference, Cond.selects RX10 yX10_firstDifference yX10_firstDifference, Cond.code yX10_firstDifference cX10_firstDifference 3 (some .int), Cond.fieldLink RX10 9 "FieldScribe$Text" "signs" "[C", Cond.methodLink RX9 40 yX10_copy, Cond.instanceMethod yX10_copy]
def wsX9_grow_r2 : List Cond := [Cond.selects RX10 yX10_copy yX10_copy, Cond.code yX10_copy cX10_copy 3 none, Cond.static yX11_isInt, Cond.initialized RX11, Cond.code yX11_isInt cX11_isInt 2 (some .boolean), Cond.constantLong RX11 280 (-2147483648), Cond.constantLong RX11 282 (2147483647)]
def wsX9_grow : List Cond := .code yX9_grow cX9_grow 8 (some .int) :: ((wsX9_grow_r1 ++ wsX9_grow_r2) ++ wsX90 ++ wsX60 ++ wsX100)
def wsX9_drop : List Cond := .code yX9_drop cX9_drop 5 none :: ([.fieldLink RX9 18 "FieldScribe$Table" "count" "I", .fieldLink RX9 11 "FieldScribe$Table" "all" "[LFieldScribe$Row;", .methodLink RX9 36 yX9_find, .instanceMethod yX9_find, .selects RX9 yX9_find yX9_find, .initialized RX9, .code yX9_find cX9_find 3 (some .int), .methodLink RX9 22 yX9_get, .instanceMethod yX9_get, .selects RX9 yX9_get yX9_get, .code yX9_get cX9_get 2 (some (.object "FieldScribe$Row")), .methodLink RX9 30 yX10_hasSignsOf, .instanceMethod yX10_hasSignsOf, .selects RX10 yX10_hasSignsOf yX10_hasSignsOf, .initialized RX10, .code yX10_hasSignsOf cX10_hasSignsOf 2 (some .boolean), .fieldLink RX10 15 "FieldScribe$Text" "length" "I", .methodLink RX10 44 yX10_firstDifference, .instanceMethod yX10_firstDifference, .selects RX10 yX10_firstDifference yX10_firstDifference, .code yX10_firstDifference cX10_firstDifference 3 (some .int), .fieldLink RX10 9 "FieldScribe$Text" "signs" "[C"] ++ wsX90 ++ wsX60 ++ wsX100)
def wsX11_init_r1 : List Cond := [Cond.methodLink RX11 3 objectInit, Cond.instanceMethod objectInit, Cond.code objectInit ⟨#[0xb1]⟩ 1 none, Cond.classLink RX11 9 RJx4a65c, Cond.instantiable RJx4a65c 3, Cond.initialized RJx4a65c, Cond.fieldLink RX11 12 "FieldScribe" "program" "Ljava/util/ArrayList;", Cond.classLink RX11 16 RX4, Cond.instantiable RX4 5, Cond.initialized RX4, Cond.fieldLink RX11 19 "FieldScribe" "page" "LFieldScribe$Page;", Cond.classLink RX11 23 RX9, Cond.instantiable RX9 2, Cond.initialized RX9, Cond.fieldLink RX11 26 "FieldScribe" "table" "LFieldScribe$Table;", Cond.classLink RX11 30 RX5, Cond.instantiable RX5 3, Cond.initialized RX5, Cond.fieldLink RX11 33 "FieldScribe" "printout" "LFieldScribe$Printout;", Cond.classLink RX11 37 RX8, Cond.instantiable RX8 1, Cond.initialized RX8, Cond.fieldLink RX11 40 "FieldScribe" "machine" "LFieldScribe$StackMachine;", Cond.classLink RX11 44 RX10]
def wsX11_init_r2 : List Cond := [Cond.instantiable RX10 2, Cond.initialized RX10, Cond.fieldLink RX11 47 "FieldScribe" "typed" "LFieldScribe$Text;", Cond.fieldLink RX11 51 "FieldScribe" "value" "LFieldScribe$Text;", Cond.methodLink RX11 11 yJx4a65c_init_da8c8, Cond.instanceMethod yJx4a65c_init_da8c8, Cond.code yJx4a65c_init_da8c8 cJx4a65c_init_da8c8 1 none, Cond.fieldLink RJx4a65c 39 "java/util/ArrayList" "DEFAULTCAPACITY_EMPTY_ELEMENTDATA" "[Ljava/lang/Object;", Cond.fieldLink RJx4a65c 9 "java/util/ArrayList" "elementData" "[Ljava/lang/Object;", Cond.methodLink RJx4a65c 1 yJxc12de_init_da8c8, Cond.instanceMethod yJxc12de_init_da8c8, Cond.initialized RJxc12de, Cond.code yJxc12de_init_da8c8 cJxc12de_init_da8c8 1 none, Cond.fieldLink RJxc12de 7 "java/util/AbstractList" "modCount" "I", Cond.methodLink RJxc12de 1 yJxa1e45_init_da8c8, Cond.instanceMethod yJxa1e45_init_da8c8, Cond.initialized RJxa1e45, Cond.code yJxa1e45_init_da8c8 cJxa1e45_init_da8c8 1 none, Cond.methodLink RJxa1e45 1 objectInit, Cond.methodLink RX11 18 yX4_init, Cond.instanceMethod yX4_init, Cond.code yX4_init cX4_init 2 none, Cond.methodLink RX4 3 objectInit, Cond.classLink RX4 9 RX10]
def wsX11_init_r3 : List Cond := [Cond.fieldLink RX4 12 "FieldScribe$Page" "whole" "LFieldScribe$Text;", Cond.fieldLink RX4 18 "FieldScribe$Page" "pieces" "[LFieldScribe$Text;", Cond.fieldLink RX4 22 "FieldScribe$Page" "separator" "C", Cond.instanceMethod yX10_init, Cond.code yX10_init cX10_init 1 none, Cond.methodLink RX10 3 objectInit, Cond.arrayClass .char, Cond.fieldLink RX10 9 "FieldScribe$Text" "signs" "[C", Cond.methodLink RX11 25 yX9_init, Cond.instanceMethod yX9_init, Cond.code yX9_init cX9_init 2 none, Cond.methodLink RX9 3 objectInit, Cond.classLink RX9 9 RX6, Cond.fieldLink RX9 11 "FieldScribe$Table" "all" "[LFieldScribe$Row;", Cond.instantiable RX6 2, Cond.initialized RX6, Cond.instanceMethod yX6_init, Cond.code yX6_init cX6_init 1 none, Cond.methodLink RX6 1 objectInit, Cond.classLink RX6 7 RX10, Cond.fieldLink RX6 10 "FieldScribe$Row" "name" "LFieldScribe$Text;", Cond.methodLink RX11 32 yX5_init, Cond.instanceMethod yX5_init, Cond.code yX5_init cX5_init 2 none]
def wsX11_init_r4 : List Cond := [Cond.methodLink RX5 3 objectInit, Cond.classLink RX5 9 RX10, Cond.fieldLink RX5 11 "FieldScribe$Printout" "ring" "[LFieldScribe$Text;", Cond.methodLink RX11 39 yX8_init, Cond.instanceMethod yX8_init, Cond.code yX8_init cX8_init 2 none, Cond.methodLink RX8 3 objectInit, Cond.classLink RX8 11 RX10, Cond.fieldLink RX8 13 "FieldScribe$StackMachine" "stack" "[LFieldScribe$Text;"]
def wsX11_init : List Cond := .code yX11_init cX11_init 1 none :: ((wsX11_init_r1 ++ (wsX11_init_r2 ++ (wsX11_init_r3 ++ wsX11_init_r4))) ++ wsJx4a65c0 ++ wsX110 ++ wsX40 ++ wsX90 ++ wsX50 ++ wsX80 ++ wsX100 ++ wsX60)
def wsX11_isField : List Cond := .code yX11_isField cX11_isField 1 (some .boolean) :: ([])
def wsX11_isNumber : List Cond := .code yX11_isNumber cX11_isNumber 1 (some .boolean) :: ([])
def wsX11_isPattern : List Cond := .code yX11_isPattern cX11_isPattern 3 (some .boolean) :: ([.methodLink RX11 88 yX11_isField, .static yX11_isField, .initialized RX11, .code yX11_isField cX11_isField 1 (some .boolean), .methodLink RX11 208 yX11_isNumber, .static yX11_isNumber, .code yX11_isNumber cX11_isNumber 1 (some .boolean)])
def wsJx4a65c_size_8abf5 : List Cond := .code yJx4a65c_size_8abf5 cJx4a65c_size_8abf5 1 (some .int) :: ([.fieldLink RJx4a65c 48 "java/util/ArrayList" "size" "I"] ++ wsJx4a65c0)
def wsJ8_hugeLength_7cf53 : List Cond := .code yJ8_hugeLength_7cf53 cJ8_hugeLength_7cf53 3 (some .int) :: ([.constant RJ8 200 (2147483639)])
def wsJ8_newLength_cabcc : List Cond := .code yJ8_newLength_cabcc cJ8_newLength_cabcc 4 (some .int) :: ([.methodLink RJ8 194 Lib.Math.max.name, .static Lib.Math.max.name, .initialized "java/lang/Math", .code Lib.Math.max.name Lib.Math.max.code 2 (some .int), .constant RJ8 200 (2147483639), .methodLink RJ8 201 yJ8_hugeLength_7cf53, .static yJ8_hugeLength_7cf53, .initialized RJ8, .code yJ8_hugeLength_7cf53 cJ8_hugeLength_7cf53 3 (some .int)])
def wsJ7_copyOf_6403c : List Cond := .code yJ7_copyOf_6403c cJ7_copyOf_6403c 4 (some (.array (.object "java/lang/Object"))) :: ([.classLink RJ7 110 "[Ljava/lang/Object;", .classLink RJ7 2 "java/lang/Object", .methodLink RJ7 304 Lib.Math.min.name, .static Lib.Math.min.name, .initialized "java/lang/Math", .code Lib.Math.min.name Lib.Math.min.code 2 (some .int), .methodLink RJ7 150 arraycopyName, .native arraycopyName, .static arraycopyName, .initialized "java/lang/System"])
def wsJ7_copyOf_1904c : List Cond := .code yJ7_copyOf_1904c cJ7_copyOf_1904c 2 (some (.array (.object "java/lang/Object"))) :: ([.methodLink RJ7 86 ⟨"java/lang/Object", "getClass", "()Ljava/lang/Class;"⟩, .selects "[Ljava/lang/Object;" ⟨"java/lang/Object", "getClass", "()Ljava/lang/Class;"⟩ ⟨"java/lang/Object", "getClass", "()Ljava/lang/Class;"⟩, .instanceMethod ⟨"java/lang/Object", "getClass", "()Ljava/lang/Class;"⟩, .native ⟨"java/lang/Object", "getClass", "()Ljava/lang/Class;"⟩, .methodLink RJ7 300 yJ7_copyOf_6403c, .static yJ7_copyOf_6403c, .initialized RJ7, .code yJ7_copyOf_6403c cJ7_copyOf_6403c 4 (some (.array (.object "java/lang/Object"))), .classLink RJ7 110 "[Ljava/lang/Object;", .classLink RJ7 2 "java/lang/Object", .methodLink RJ7 304 Lib.Math.min.name, .static Lib.Math.min.name, .initialized "java/lang/Math", .code Lib.Math.min.name Lib.Math.min.code 2 (some .int), .methodLink RJ7 150 arraycopyName, .native arraycopyName, .static arraycopyName, .initialized "java/lang/System"])
def wsJx4a65c_grow_92f84_r1 : List Cond := [Cond.fieldLink RJx4a65c 9 "java/util/ArrayList" "elementData" "[Ljava/lang/Object;", Cond.fieldLink RJx4a65c 39 "java/util/ArrayList" "DEFAULTCAPACITY_EMPTY_ELEMENTDATA" "[Ljava/lang/Object;", Cond.methodLink RJx4a65c 79 Lib.Math.max.name, Cond.static Lib.Math.max.name, Cond.initialized "java/lang/Math", Cond.code Lib.Math.max.name Lib.Math.max.code 2 (some .int), Cond.classLink RJx4a65c 7 "java/lang/Object", Cond.methodLink RJx4a65c 73 yJ8_newLength_cabcc, Cond.static yJ8_newLength_cabcc, Cond.initialized RJ8, Cond.code yJ8_newLength_cabcc cJ8_newLength_cabcc 4 (some .int), Cond.methodLink RJ8 194 Lib.Math.max.name, Cond.constant RJ8 200 (2147483639), Cond.methodLink RJ8 201 yJ8_hugeLength_7cf53, Cond.static yJ8_hugeLength_7cf53, Cond.code yJ8_hugeLength_7cf53 cJ8_hugeLength_7cf53 3 (some .int), Cond.methodLink RJx4a65c 66 yJ7_copyOf_1904c, Cond.static yJ7_copyOf_1904c, Cond.initialized RJ7, Cond.code yJ7_copyOf_1904c cJ7_copyOf_1904c 2 (some (.array (.object "java/lang/Object"))), Cond.methodLink RJ7 86 ⟨"java/lang/Object", "getClass", "()Ljava/lang/Class;"⟩, Cond.selects "[Ljava/lang/Object;" ⟨"java/lang/Object", "getClass", "()Ljava/lang/Class;"⟩ ⟨"java/lang/Object", "getClass", "()Ljava/lang/Class;"⟩, Cond.instanceMethod ⟨"java/lang/Object", "getClass", "()Ljava/lang/Class;"⟩, Cond.native ⟨"java/lang/Object", "getClass", "()Ljava/lang/Class;"⟩]
def wsJx4a65c_grow_92f84_r2 : List Cond := [Cond.methodLink RJ7 300 yJ7_copyOf_6403c, Cond.static yJ7_copyOf_6403c, Cond.code yJ7_copyOf_6403c cJ7_copyOf_6403c 4 (some (.array (.object "java/lang/Object"))), Cond.classLink RJ7 110 "[Ljava/lang/Object;", Cond.classLink RJ7 2 "java/lang/Object", Cond.methodLink RJ7 304 Lib.Math.min.name, Cond.static Lib.Math.min.name, Cond.code Lib.Math.min.name Lib.Math.min.code 2 (some .int), Cond.methodLink RJ7 150 arraycopyName, Cond.native arraycopyName, Cond.static arraycopyName, Cond.initialized "java/lang/System"]
def wsJx4a65c_grow_92f84 : List Cond := .code yJx4a65c_grow_92f84 cJx4a65c_grow_92f84 4 (some (.array (.object "java/lang/Object"))) :: ((wsJx4a65c_grow_92f84_r1 ++ wsJx4a65c_grow_92f84_r2) ++ wsJx4a65c0)
def wsJx4a65c_grow_d5877_r1 : List Cond := [Cond.fieldLink RJx4a65c 48 "java/util/ArrayList" "size" "I", Cond.methodLink RJx4a65c 69 yJx4a65c_grow_92f84, Cond.instanceMethod yJx4a65c_grow_92f84, Cond.selects RJx4a65c yJx4a65c_grow_92f84 yJx4a65c_grow_92f84, Cond.initialized RJx4a65c, Cond.code yJx4a65c_grow_92f84 cJx4a65c_grow_92f84 4 (some (.array (.object "java/lang/Object"))), Cond.fieldLink RJx4a65c 9 "java/util/ArrayList" "elementData" "[Ljava/lang/Object;", Cond.fieldLink RJx4a65c 39 "java/util/ArrayList" "DEFAULTCAPACITY_EMPTY_ELEMENTDATA" "[Ljava/lang/Object;", Cond.methodLink RJx4a65c 79 Lib.Math.max.name, Cond.static Lib.Math.max.name, Cond.initialized "java/lang/Math", Cond.code Lib.Math.max.name Lib.Math.max.code 2 (some .int), Cond.classLink RJx4a65c 7 "java/lang/Object", Cond.methodLink RJx4a65c 73 yJ8_newLength_cabcc, Cond.static yJ8_newLength_cabcc, Cond.initialized RJ8, Cond.code yJ8_newLength_cabcc cJ8_newLength_cabcc 4 (some .int), Cond.methodLink RJ8 194 Lib.Math.max.name, Cond.constant RJ8 200 (2147483639), Cond.methodLink RJ8 201 yJ8_hugeLength_7cf53, Cond.static yJ8_hugeLength_7cf53, Cond.code yJ8_hugeLength_7cf53 cJ8_hugeLength_7cf53 3 (some .int), Cond.methodLink RJx4a65c 66 yJ7_copyOf_1904c, Cond.static yJ7_copyOf_1904c]
def wsJx4a65c_grow_d5877_r2 : List Cond := [Cond.initialized RJ7, Cond.code yJ7_copyOf_1904c cJ7_copyOf_1904c 2 (some (.array (.object "java/lang/Object"))), Cond.methodLink RJ7 86 ⟨"java/lang/Object", "getClass", "()Ljava/lang/Class;"⟩, Cond.selects "[Ljava/lang/Object;" ⟨"java/lang/Object", "getClass", "()Ljava/lang/Class;"⟩ ⟨"java/lang/Object", "getClass", "()Ljava/lang/Class;"⟩, Cond.instanceMethod ⟨"java/lang/Object", "getClass", "()Ljava/lang/Class;"⟩, Cond.native ⟨"java/lang/Object", "getClass", "()Ljava/lang/Class;"⟩, Cond.methodLink RJ7 300 yJ7_copyOf_6403c, Cond.static yJ7_copyOf_6403c, Cond.code yJ7_copyOf_6403c cJ7_copyOf_6403c 4 (some (.array (.object "java/lang/Object"))), Cond.classLink RJ7 110 "[Ljava/lang/Object;", Cond.classLink RJ7 2 "java/lang/Object", Cond.methodLink RJ7 304 Lib.Math.min.name, Cond.static Lib.Math.min.name, Cond.code Lib.Math.min.name Lib.Math.min.code 2 (some .int), Cond.methodLink RJ7 150 arraycopyName, Cond.native arraycopyName, Cond.static arraycopyName, Cond.initialized "java/lang/System"]
def wsJx4a65c_grow_d5877 : List Cond := .code yJx4a65c_grow_d5877 cJx4a65c_grow_d5877 1 (some (.array (.object "java/lang/Object"))) :: ((wsJx4a65c_grow_d5877_r1 ++ wsJx4a65c_grow_d5877_r2) ++ wsJx4a65c0)
def wsJx4a65c_add_72be8_r1 : List Cond := [Cond.fieldLink RJx4a65c 48 "java/util/ArrayList" "size" "I", Cond.methodLink RJx4a65c 129 yJx4a65c_grow_d5877, Cond.instanceMethod yJx4a65c_grow_d5877, Cond.selects RJx4a65c yJx4a65c_grow_d5877 yJx4a65c_grow_d5877, Cond.initialized RJx4a65c, Cond.code yJx4a65c_grow_d5877 cJx4a65c_grow_d5877 1 (some (.array (.object "java/lang/Object"))), Cond.methodLink RJx4a65c 69 yJx4a65c_grow_92f84, Cond.instanceMethod yJx4a65c_grow_92f84, Cond.selects RJx4a65c yJx4a65c_grow_92f84 yJx4a65c_grow_92f84, Cond.code yJx4a65c_grow_92f84 cJx4a65c_grow_92f84 4 (some (.array (.object "java/lang/Object"))), Cond.fieldLink RJx4a65c 9 "java/util/ArrayList" "elementData" "[Ljava/lang/Object;", Cond.fieldLink RJx4a65c 39 "java/util/ArrayList" "DEFAULTCAPACITY_EMPTY_ELEMENTDATA" "[Ljava/lang/Object;", Cond.methodLink RJx4a65c 79 Lib.Math.max.name, Cond.static Lib.Math.max.name, Cond.initialized "java/lang/Math", Cond.code Lib.Math.max.name Lib.Math.max.code 2 (some .int), Cond.classLink RJx4a65c 7 "java/lang/Object", Cond.methodLink RJx4a65c 73 yJ8_newLength_cabcc, Cond.static yJ8_newLength_cabcc, Cond.initialized RJ8, Cond.code yJ8_newLength_cabcc cJ8_newLength_cabcc 4 (some .int), Cond.methodLink RJ8 194 Lib.Math.max.name, Cond.constant RJ8 200 (2147483639), Cond.methodLink RJ8 201 yJ8_hugeLength_7cf53]
def wsJx4a65c_add_72be8_r2 : List Cond := [Cond.static yJ8_hugeLength_7cf53, Cond.code yJ8_hugeLength_7cf53 cJ8_hugeLength_7cf53 3 (some .int), Cond.methodLink RJx4a65c 66 yJ7_copyOf_1904c, Cond.static yJ7_copyOf_1904c, Cond.initialized RJ7, Cond.code yJ7_copyOf_1904c cJ7_copyOf_1904c 2 (some (.array (.object "java/lang/Object"))), Cond.methodLink RJ7 86 ⟨"java/lang/Object", "getClass", "()Ljava/lang/Class;"⟩, Cond.selects "[Ljava/lang/Object;" ⟨"java/lang/Object", "getClass", "()Ljava/lang/Class;"⟩ ⟨"java/lang/Object", "getClass", "()Ljava/lang/Class;"⟩, Cond.instanceMethod ⟨"java/lang/Object", "getClass", "()Ljava/lang/Class;"⟩, Cond.native ⟨"java/lang/Object", "getClass", "()Ljava/lang/Class;"⟩, Cond.methodLink RJ7 300 yJ7_copyOf_6403c, Cond.static yJ7_copyOf_6403c, Cond.code yJ7_copyOf_6403c cJ7_copyOf_6403c 4 (some (.array (.object "java/lang/Object"))), Cond.classLink RJ7 110 "[Ljava/lang/Object;", Cond.classLink RJ7 2 "java/lang/Object", Cond.methodLink RJ7 304 Lib.Math.min.name, Cond.static Lib.Math.min.name, Cond.code Lib.Math.min.name Lib.Math.min.code 2 (some .int), Cond.methodLink RJ7 150 arraycopyName, Cond.native arraycopyName, Cond.static arraycopyName, Cond.initialized "java/lang/System"]
def wsJx4a65c_add_72be8 : List Cond := .code yJx4a65c_add_72be8 cJx4a65c_add_72be8 4 none :: ((wsJx4a65c_add_72be8_r1 ++ wsJx4a65c_add_72be8_r2) ++ wsJx4a65c0)
def wsJx4a65c_add_9ea2d_r1 : List Cond := [Cond.fieldLink RJx4a65c 63 "java/util/ArrayList" "modCount" "I", Cond.sameField "java/util/ArrayList" "java/util/AbstractList" "modCount" "I", Cond.fieldLink RJx4a65c 9 "java/util/ArrayList" "elementData" "[Ljava/lang/Object;", Cond.fieldLink RJx4a65c 48 "java/util/ArrayList" "size" "I", Cond.methodLink RJx4a65c 131 yJx4a65c_add_72be8, Cond.instanceMethod yJx4a65c_add_72be8, Cond.selects RJx4a65c yJx4a65c_add_72be8 yJx4a65c_add_72be8, Cond.initialized RJx4a65c, Cond.code yJx4a65c_add_72be8 cJx4a65c_add_72be8 4 none, Cond.methodLink RJx4a65c 129 yJx4a65c_grow_d5877, Cond.instanceMethod yJx4a65c_grow_d5877, Cond.selects RJx4a65c yJx4a65c_grow_d5877 yJx4a65c_grow_d5877, Cond.code yJx4a65c_grow_d5877 cJx4a65c_grow_d5877 1 (some (.array (.object "java/lang/Object"))), Cond.methodLink RJx4a65c 69 yJx4a65c_grow_92f84, Cond.instanceMethod yJx4a65c_grow_92f84, Cond.selects RJx4a65c yJx4a65c_grow_92f84 yJx4a65c_grow_92f84, Cond.code yJx4a65c_grow_92f84 cJx4a65c_grow_92f84 4 (some (.array (.object "java/lang/Object"))), Cond.fieldLink RJx4a65c 39 "java/util/ArrayList" "DEFAULTCAPACITY_EMPTY_ELEMENTDATA" "[Ljava/lang/Object;", Cond.methodLink RJx4a65c 79 Lib.Math.max.name, Cond.static Lib.Math.max.name, Cond.initialized "java/lang/Math", Cond.code Lib.Math.max.name Lib.Math.max.code 2 (some .int), Cond.classLink RJx4a65c 7 "java/lang/Object", Cond.methodLink RJx4a65c 73 yJ8_newLength_cabcc]
def wsJx4a65c_add_9ea2d_r2 : List Cond := [Cond.static yJ8_newLength_cabcc, Cond.initialized RJ8, Cond.code yJ8_newLength_cabcc cJ8_newLength_cabcc 4 (some .int), Cond.methodLink RJ8 194 Lib.Math.max.name, Cond.constant RJ8 200 (2147483639), Cond.methodLink RJ8 201 yJ8_hugeLength_7cf53, Cond.static yJ8_hugeLength_7cf53, Cond.code yJ8_hugeLength_7cf53 cJ8_hugeLength_7cf53 3 (some .int), Cond.methodLink RJx4a65c 66 yJ7_copyOf_1904c, Cond.static yJ7_copyOf_1904c, Cond.initialized RJ7, Cond.code yJ7_copyOf_1904c cJ7_copyOf_1904c 2 (some (.array (.object "java/lang/Object"))), Cond.methodLink RJ7 86 ⟨"java/lang/Object", "getClass", "()Ljava/lang/Class;"⟩, Cond.selects "[Ljava/lang/Object;" ⟨"java/lang/Object", "getClass", "()Ljava/lang/Class;"⟩ ⟨"java/lang/Object", "getClass", "()Ljava/lang/Class;"⟩, Cond.instanceMethod ⟨"java/lang/Object", "getClass", "()Ljava/lang/Class;"⟩, Cond.native ⟨"java/lang/Object", "getClass", "()Ljava/lang/Class;"⟩, Cond.methodLink RJ7 300 yJ7_copyOf_6403c, Cond.static yJ7_copyOf_6403c, Cond.code yJ7_copyOf_6403c cJ7_copyOf_6403c 4 (some (.array (.object "java/lang/Object"))), Cond.classLink RJ7 110 "[Ljava/lang/Object;", Cond.classLink RJ7 2 "java/lang/Object", Cond.methodLink RJ7 304 Lib.Math.min.name, Cond.static Lib.Math.min.name, Cond.code Lib.Math.min.name Lib.Math.min.code 2 (some .int)]
def wsJx4a65c_add_9ea2d_r3 : List Cond := [Cond.methodLink RJ7 150 arraycopyName, Cond.native arraycopyName, Cond.static arraycopyName, Cond.initialized "java/lang/System"]
def wsJx4a65c_add_9ea2d : List Cond := .code yJx4a65c_add_9ea2d cJx4a65c_add_9ea2d 2 (some .boolean) :: ((wsJx4a65c_add_9ea2d_r1 ++ (wsJx4a65c_add_9ea2d_r2 ++ wsJx4a65c_add_9ea2d_r3)) ++ wsJx4a65c0)
def wsX11_rule_r1 : List Cond := [Cond.classLink RX11 58 "java/lang/IllegalArgumentException", Cond.initialized "java/lang/IllegalArgumentException", Cond.classLink RX11 69 "java/lang/IllegalStateException", Cond.initialized "java/lang/IllegalStateException", Cond.fieldLink RX11 12 "FieldScribe" "program" "Ljava/util/ArrayList;", Cond.classLink RX11 74 RX7, Cond.instantiable RX7 5, Cond.initialized RX7, Cond.methodLink RX11 54 yX11_isPattern, Cond.static yX11_isPattern, Cond.initialized RX11, Cond.code yX11_isPattern cX11_isPattern 3 (some .boolean), Cond.methodLink RX11 88 yX11_isField, Cond.static yX11_isField, Cond.code yX11_isField cX11_isField 1 (some .boolean), Cond.methodLink RX11 208 yX11_isNumber, Cond.static yX11_isNumber, Cond.code yX11_isNumber cX11_isNumber 1 (some .boolean), Cond.methodLink RX11 65 yJx4a65c_size_8abf5, Cond.instanceMethod yJx4a65c_size_8abf5, Cond.selects RJx4a65c yJx4a65c_size_8abf5 yJx4a65c_size_8abf5, Cond.initialized RJx4a65c, Cond.code yJx4a65c_size_8abf5 cJx4a65c_size_8abf5 1 (some .int), Cond.fieldLink RJx4a65c 48 "java/util/ArrayList" "size" "I"]
def wsX11_rule_r2 : List Cond := [Cond.methodLink RX11 76 yX7_init, Cond.instanceMethod yX7_init, Cond.code yX7_init cX7_init 4 none, Cond.methodLink RX7 3 objectInit, Cond.instanceMethod objectInit, Cond.code objectInit ⟨#[0xb1]⟩ 1 none, Cond.classLink RX7 9 RJx4a65c, Cond.instantiable RJx4a65c 3, Cond.fieldLink RX7 12 "FieldScribe$Rule" "actions" "Ljava/util/ArrayList;", Cond.fieldLink RX7 18 "FieldScribe$Rule" "pattern" "I", Cond.fieldLink RX7 22 "FieldScribe$Rule" "a" "I", Cond.fieldLink RX7 25 "FieldScribe$Rule" "b" "I", Cond.methodLink RX7 11 yJx4a65c_init_da8c8, Cond.instanceMethod yJx4a65c_init_da8c8, Cond.code yJx4a65c_init_da8c8 cJx4a65c_init_da8c8 1 none, Cond.fieldLink RJx4a65c 39 "java/util/ArrayList" "DEFAULTCAPACITY_EMPTY_ELEMENTDATA" "[Ljava/lang/Object;", Cond.fieldLink RJx4a65c 9 "java/util/ArrayList" "elementData" "[Ljava/lang/Object;", Cond.methodLink RJx4a65c 1 yJxc12de_init_da8c8, Cond.instanceMethod yJxc12de_init_da8c8, Cond.initialized RJxc12de, Cond.code yJxc12de_init_da8c8 cJxc12de_init_da8c8 1 none, Cond.fieldLink RJxc12de 7 "java/util/AbstractList" "modCount" "I", Cond.methodLink RJxc12de 1 yJxa1e45_init_da8c8, Cond.instanceMethod yJxa1e45_init_da8c8]
def wsX11_rule_r3 : List Cond := [Cond.initialized RJxa1e45, Cond.code yJxa1e45_init_da8c8 cJxa1e45_init_da8c8 1 none, Cond.methodLink RJxa1e45 1 objectInit, Cond.methodLink RX11 79 yJx4a65c_add_9ea2d, Cond.instanceMethod yJx4a65c_add_9ea2d, Cond.selects RJx4a65c yJx4a65c_add_9ea2d yJx4a65c_add_9ea2d, Cond.code yJx4a65c_add_9ea2d cJx4a65c_add_9ea2d 2 (some .boolean), Cond.fieldLink RJx4a65c 63 "java/util/ArrayList" "modCount" "I", Cond.sameField "java/util/ArrayList" "java/util/AbstractList" "modCount" "I", Cond.methodLink RJx4a65c 131 yJx4a65c_add_72be8, Cond.instanceMethod yJx4a65c_add_72be8, Cond.selects RJx4a65c yJx4a65c_add_72be8 yJx4a65c_add_72be8, Cond.code yJx4a65c_add_72be8 cJx4a65c_add_72be8 4 none, Cond.methodLink RJx4a65c 129 yJx4a65c_grow_d5877, Cond.instanceMethod yJx4a65c_grow_d5877, Cond.selects RJx4a65c yJx4a65c_grow_d5877 yJx4a65c_grow_d5877, Cond.code yJx4a65c_grow_d5877 cJx4a65c_grow_d5877 1 (some (.array (.object "java/lang/Object"))), Cond.methodLink RJx4a65c 69 yJx4a65c_grow_92f84, Cond.instanceMethod yJx4a65c_grow_92f84, Cond.selects RJx4a65c yJx4a65c_grow_92f84 yJx4a65c_grow_92f84, Cond.code yJx4a65c_grow_92f84 cJx4a65c_grow_92f84 4 (some (.array (.object "java/lang/Object"))), Cond.methodLink RJx4a65c 79 Lib.Math.max.name, Cond.static Lib.Math.max.name, Cond.initialized "java/lang/Math"]
def wsX11_rule_r4 : List Cond := [Cond.code Lib.Math.max.name Lib.Math.max.code 2 (some .int), Cond.classLink RJx4a65c 7 "java/lang/Object", Cond.methodLink RJx4a65c 73 yJ8_newLength_cabcc, Cond.static yJ8_newLength_cabcc, Cond.initialized RJ8, Cond.code yJ8_newLength_cabcc cJ8_newLength_cabcc 4 (some .int), Cond.methodLink RJ8 194 Lib.Math.max.name, Cond.constant RJ8 200 (2147483639), Cond.methodLink RJ8 201 yJ8_hugeLength_7cf53, Cond.static yJ8_hugeLength_7cf53, Cond.code yJ8_hugeLength_7cf53 cJ8_hugeLength_7cf53 3 (some .int), Cond.methodLink RJx4a65c 66 yJ7_copyOf_1904c, Cond.static yJ7_copyOf_1904c, Cond.initialized RJ7, Cond.code yJ7_copyOf_1904c cJ7_copyOf_1904c 2 (some (.array (.object "java/lang/Object"))), Cond.methodLink RJ7 86 ⟨"java/lang/Object", "getClass", "()Ljava/lang/Class;"⟩, Cond.selects "[Ljava/lang/Object;" ⟨"java/lang/Object", "getClass", "()Ljava/lang/Class;"⟩ ⟨"java/lang/Object", "getClass", "()Ljava/lang/Class;"⟩, Cond.instanceMethod ⟨"java/lang/Object", "getClass", "()Ljava/lang/Class;"⟩, Cond.native ⟨"java/lang/Object", "getClass", "()Ljava/lang/Class;"⟩, Cond.methodLink RJ7 300 yJ7_copyOf_6403c, Cond.static yJ7_copyOf_6403c, Cond.code yJ7_copyOf_6403c cJ7_copyOf_6403c 4 (some (.array (.object "java/lang/Object"))), Cond.classLink RJ7 110 "[Ljava/lang/Object;", Cond.classLink RJ7 2 "java/lang/Object"]
def wsX11_rule_r5 : List Cond := [Cond.methodLink RJ7 304 Lib.Math.min.name, Cond.static Lib.Math.min.name, Cond.code Lib.Math.min.name Lib.Math.min.code 2 (some .int), Cond.methodLink RJ7 150 arraycopyName, Cond.native arraycopyName, Cond.static arraycopyName, Cond.initialized "java/lang/System"]
def wsX11_rule : List Cond := .code yX11_rule cX11_rule 4 (some .int) :: ((wsX11_rule_r1 ++ (wsX11_rule_r2 ++ (wsX11_rule_r3 ++ (wsX11_rule_r4 ++ wsX11_rule_r5)))) ++ wsX110 ++ wsX70 ++ wsJx4a65c0 ++ (vx_atS RX11 62 "java/lang/IllegalArgumentException" ["java/lang/RuntimeException", "java/lang/Exception"]).filter goodWord ++ (vx_atS RX11 73 "java/lang/IllegalStateException" ["java/lang/RuntimeException", "java/lang/Exception"]).filter goodWord)
def wsX11_isOperand : List Cond := .code yX11_isOperand cX11_isOperand 1 (some .boolean) :: ([.methodLink RX11 208 yX11_isNumber, .static yX11_isNumber, .initialized RX11, .code yX11_isNumber cX11_isNumber 1 (some .boolean)])
def wsJ3_checkIndex_8e157 : List Cond := .code yJ3_checkIndex_8e157 cJ3_checkIndex_8e157 3 (some .int) :: ([])
def wsJ15_checkIndex_7cf53 : List Cond := .code yJ15_checkIndex_7cf53 cJ15_checkIndex_7cf53 2 (some .int) :: ([.methodLink RJ15 105 yJ3_checkIndex_8e157, .static yJ3_checkIndex_8e157, .initialized RJ3, .code yJ3_checkIndex_8e157 cJ3_checkIndex_8e157 3 (some .int)])
def wsJx4a65c_elementData_915e3 : List Cond := .code yJx4a65c_elementData_915e3 cJx4a65c_elementData_915e3 2 (some (.object "java/lang/Object")) :: ([.fieldLink RJx4a65c 9 "java/util/ArrayList" "elementData" "[Ljava/lang/Object;"] ++ wsJx4a65c0)
def wsJx4a65c_get_915e3 : List Cond := .code yJx4a65c_get_915e3 cJx4a65c_get_915e3 2 (some (.object "java/lang/Object")) :: ([.fieldLink RJx4a65c 48 "java/util/ArrayList" "size" "I", .methodLink RJx4a65c 118 yJ15_checkIndex_7cf53, .static yJ15_checkIndex_7cf53, .initialized RJ15, .code yJ15_checkIndex_7cf53 cJ15_checkIndex_7cf53 2 (some .int), .methodLink RJ15 105 yJ3_checkIndex_8e157, .static yJ3_checkIndex_8e157, .initialized RJ3, .code yJ3_checkIndex_8e157 cJ3_checkIndex_8e157 3 (some .int), .methodLink RJx4a65c 123 yJx4a65c_elementData_915e3, .instanceMethod yJx4a65c_elementData_915e3, .selects RJx4a65c yJx4a65c_elementData_915e3 yJx4a65c_elementData_915e3, .initialized RJx4a65c, .code yJx4a65c_elementData_915e3 cJx4a65c_elementData_915e3 2 (some (.object "java/lang/Object")), .fieldLink RJx4a65c 9 "java/util/ArrayList" "elementData" "[Ljava/lang/Object;"] ++ wsJx4a65c0)
def wsX11_treeOf_r1 : List Cond := [Cond.classLink RX11 259 RX2, Cond.instantiable RX2 1, Cond.initialized RX2, Cond.classLink RX11 263 RX1, Cond.instantiable RX1 4, Cond.initialized RX1, Cond.methodLink RX11 261 yX2_init, Cond.instanceMethod yX2_init, Cond.code yX2_init cX2_init 2 none, Cond.fieldLink RX2 7 "FieldScribe$Leaf" "operand" "I", Cond.instanceMethod yX3_init, Cond.initialized RX3, Cond.code yX3_init cX3_init 1 none, Cond.methodLink RX3 1 objectInit, Cond.instanceMethod objectInit, Cond.code objectInit ⟨#[0xb1]⟩ 1 none, Cond.methodLink RX11 265 yX1_init, Cond.instanceMethod yX1_init, Cond.code yX1_init cX1_init 4 none, Cond.classLink RX1 7 RX10, Cond.instantiable RX10 2, Cond.initialized RX10, Cond.fieldLink RX1 10 "FieldScribe$Fork" "second" "LFieldScribe$Text;", Cond.fieldLink RX1 16 "FieldScribe$Fork" "operation" "I"]
def wsX11_treeOf_r2 : List Cond := [Cond.fieldLink RX1 20 "FieldScribe$Fork" "left" "LFieldScribe$Leaf;", Cond.fieldLink RX1 24 "FieldScribe$Fork" "right" "LFieldScribe$Leaf;", Cond.instanceMethod yX10_init, Cond.code yX10_init cX10_init 1 none, Cond.methodLink RX10 3 objectInit, Cond.arrayClass .char, Cond.fieldLink RX10 9 "FieldScribe$Text" "signs" "[C"]
def wsX11_treeOf : List Cond := .code yX11_treeOf cX11_treeOf 3 (some (.object "FieldScribe$Node")) :: ((wsX11_treeOf_r1 ++ wsX11_treeOf_r2) ++ wsX20 ++ wsX10 ++ wsX100)
def wsX11_codeOf : List Cond := .code yX11_codeOf cX11_codeOf 3 (some (.array .int)) :: ([.arrayClass .int])
def wsX11_act_r1 : List Cond := [Cond.classLink RX11 83 "java/lang/IndexOutOfBoundsException", Cond.initialized "java/lang/IndexOutOfBoundsException", Cond.classLink RX11 58 "java/lang/IllegalArgumentException", Cond.initialized "java/lang/IllegalArgumentException", Cond.classLink RX11 69 "java/lang/IllegalStateException", Cond.initialized "java/lang/IllegalStateException", Cond.fieldLink RX11 12 "FieldScribe" "program" "Ljava/util/ArrayList;", Cond.classLink RX11 74 "FieldScribe$Rule", Cond.classLink RX11 108 RX0, Cond.instantiable RX0 4, Cond.initialized RX0, Cond.methodLink RX11 65 yJx4a65c_size_8abf5, Cond.instanceMethod yJx4a65c_size_8abf5, Cond.selects RJx4a65c yJx4a65c_size_8abf5 yJx4a65c_size_8abf5, Cond.initialized RJx4a65c, Cond.code yJx4a65c_size_8abf5 cJx4a65c_size_8abf5 1 (some .int), Cond.fieldLink RJx4a65c 48 "java/util/ArrayList" "size" "I", Cond.methodLink RX11 88 yX11_isField, Cond.static yX11_isField, Cond.initialized RX11, Cond.code yX11_isField cX11_isField 1 (some .boolean), Cond.methodLink RX11 94 yX11_isOperand, Cond.static yX11_isOperand, Cond.code yX11_isOperand cX11_isOperand 1 (some .boolean)]
def wsX11_act_r2 : List Cond := [Cond.methodLink RX11 208 yX11_isNumber, Cond.static yX11_isNumber, Cond.code yX11_isNumber cX11_isNumber 1 (some .boolean), Cond.methodLink RX11 99 yJx4a65c_get_915e3, Cond.instanceMethod yJx4a65c_get_915e3, Cond.selects RJx4a65c yJx4a65c_get_915e3 yJx4a65c_get_915e3, Cond.code yJx4a65c_get_915e3 cJx4a65c_get_915e3 2 (some (.object "java/lang/Object")), Cond.methodLink RJx4a65c 118 yJ15_checkIndex_7cf53, Cond.static yJ15_checkIndex_7cf53, Cond.initialized RJ15, Cond.code yJ15_checkIndex_7cf53 cJ15_checkIndex_7cf53 2 (some .int), Cond.methodLink RJ15 105 yJ3_checkIndex_8e157, Cond.static yJ3_checkIndex_8e157, Cond.initialized RJ3, Cond.code yJ3_checkIndex_8e157 cJ3_checkIndex_8e157 3 (some .int), Cond.methodLink RJx4a65c 123 yJx4a65c_elementData_915e3, Cond.instanceMethod yJx4a65c_elementData_915e3, Cond.selects RJx4a65c yJx4a65c_elementData_915e3 yJx4a65c_elementData_915e3, Cond.code yJx4a65c_elementData_915e3 cJx4a65c_elementData_915e3 2 (some (.object "java/lang/Object")), Cond.fieldLink RJx4a65c 9 "java/util/ArrayList" "elementData" "[Ljava/lang/Object;", Cond.methodLink RX11 110 yX11_treeOf, Cond.static yX11_treeOf, Cond.code yX11_treeOf cX11_treeOf 3 (some (.object "FieldScribe$Node")), Cond.classLink RX11 259 RX2]
def wsX11_act_r3 : List Cond := [Cond.instantiable RX2 1, Cond.initialized RX2, Cond.classLink RX11 263 RX1, Cond.instantiable RX1 4, Cond.initialized RX1, Cond.methodLink RX11 261 yX2_init, Cond.instanceMethod yX2_init, Cond.code yX2_init cX2_init 2 none, Cond.fieldLink RX2 7 "FieldScribe$Leaf" "operand" "I", Cond.instanceMethod yX3_init, Cond.initialized RX3, Cond.code yX3_init cX3_init 1 none, Cond.methodLink RX3 1 objectInit, Cond.instanceMethod objectInit, Cond.code objectInit ⟨#[0xb1]⟩ 1 none, Cond.methodLink RX11 265 yX1_init, Cond.instanceMethod yX1_init, Cond.code yX1_init cX1_init 4 none, Cond.classLink RX1 7 RX10, Cond.instantiable RX10 2, Cond.initialized RX10, Cond.fieldLink RX1 10 "FieldScribe$Fork" "second" "LFieldScribe$Text;", Cond.fieldLink RX1 16 "FieldScribe$Fork" "operation" "I", Cond.fieldLink RX1 20 "FieldScribe$Fork" "left" "LFieldScribe$Leaf;"]
def wsX11_act_r4 : List Cond := [Cond.fieldLink RX1 24 "FieldScribe$Fork" "right" "LFieldScribe$Leaf;", Cond.instanceMethod yX10_init, Cond.code yX10_init cX10_init 1 none, Cond.methodLink RX10 3 objectInit, Cond.arrayClass .char, Cond.fieldLink RX10 9 "FieldScribe$Text" "signs" "[C", Cond.methodLink RX11 114 yX11_codeOf, Cond.static yX11_codeOf, Cond.code yX11_codeOf cX11_codeOf 3 (some (.array .int)), Cond.arrayClass .int, Cond.methodLink RX11 118 yX0_init, Cond.instanceMethod yX0_init, Cond.code yX0_init cX0_init 5 none, Cond.methodLink RX0 1 objectInit, Cond.fieldLink RX0 7 "FieldScribe$Action" "kind" "I", Cond.fieldLink RX0 13 "FieldScribe$Action" "field" "I", Cond.fieldLink RX0 16 "FieldScribe$Action" "tree" "LFieldScribe$Node;", Cond.fieldLink RX0 20 "FieldScribe$Action" "code" "[I", Cond.methodLink RX11 79 yJx4a65c_add_9ea2d, Cond.instanceMethod yJx4a65c_add_9ea2d, Cond.selects RJx4a65c yJx4a65c_add_9ea2d yJx4a65c_add_9ea2d, Cond.code yJx4a65c_add_9ea2d cJx4a65c_add_9ea2d 2 (some .boolean), Cond.fieldLink RJx4a65c 63 "java/util/ArrayList" "modCount" "I", Cond.sameField "java/util/ArrayList" "java/util/AbstractList" "modCount" "I"]
def wsX11_act_r5 : List Cond := [Cond.methodLink RJx4a65c 131 yJx4a65c_add_72be8, Cond.instanceMethod yJx4a65c_add_72be8, Cond.selects RJx4a65c yJx4a65c_add_72be8 yJx4a65c_add_72be8, Cond.code yJx4a65c_add_72be8 cJx4a65c_add_72be8 4 none, Cond.methodLink RJx4a65c 129 yJx4a65c_grow_d5877, Cond.instanceMethod yJx4a65c_grow_d5877, Cond.selects RJx4a65c yJx4a65c_grow_d5877 yJx4a65c_grow_d5877, Cond.code yJx4a65c_grow_d5877 cJx4a65c_grow_d5877 1 (some (.array (.object "java/lang/Object"))), Cond.methodLink RJx4a65c 69 yJx4a65c_grow_92f84, Cond.instanceMethod yJx4a65c_grow_92f84, Cond.selects RJx4a65c yJx4a65c_grow_92f84 yJx4a65c_grow_92f84, Cond.code yJx4a65c_grow_92f84 cJx4a65c_grow_92f84 4 (some (.array (.object "java/lang/Object"))), Cond.fieldLink RJx4a65c 39 "java/util/ArrayList" "DEFAULTCAPACITY_EMPTY_ELEMENTDATA" "[Ljava/lang/Object;", Cond.methodLink RJx4a65c 79 Lib.Math.max.name, Cond.static Lib.Math.max.name, Cond.initialized "java/lang/Math", Cond.code Lib.Math.max.name Lib.Math.max.code 2 (some .int), Cond.classLink RJx4a65c 7 "java/lang/Object", Cond.methodLink RJx4a65c 73 yJ8_newLength_cabcc, Cond.static yJ8_newLength_cabcc, Cond.initialized RJ8, Cond.code yJ8_newLength_cabcc cJ8_newLength_cabcc 4 (some .int), Cond.methodLink RJ8 194 Lib.Math.max.name, Cond.constant RJ8 200 (2147483639)]
def wsX11_act_r6 : List Cond := [Cond.methodLink RJ8 201 yJ8_hugeLength_7cf53, Cond.static yJ8_hugeLength_7cf53, Cond.code yJ8_hugeLength_7cf53 cJ8_hugeLength_7cf53 3 (some .int), Cond.methodLink RJx4a65c 66 yJ7_copyOf_1904c, Cond.static yJ7_copyOf_1904c, Cond.initialized RJ7, Cond.code yJ7_copyOf_1904c cJ7_copyOf_1904c 2 (some (.array (.object "java/lang/Object"))), Cond.methodLink RJ7 86 ⟨"java/lang/Object", "getClass", "()Ljava/lang/Class;"⟩, Cond.selects "[Ljava/lang/Object;" ⟨"java/lang/Object", "getClass", "()Ljava/lang/Class;"⟩ ⟨"java/lang/Object", "getClass", "()Ljava/lang/Class;"⟩, Cond.instanceMethod ⟨"java/lang/Object", "getClass", "()Ljava/lang/Class;"⟩, Cond.native ⟨"java/lang/Object", "getClass", "()Ljava/lang/Class;"⟩, Cond.methodLink RJ7 300 yJ7_copyOf_6403c, Cond.static yJ7_copyOf_6403c, Cond.code yJ7_copyOf_6403c cJ7_copyOf_6403c 4 (some (.array (.object "java/lang/Object"))), Cond.classLink RJ7 110 "[Ljava/lang/Object;", Cond.classLink RJ7 2 "java/lang/Object", Cond.methodLink RJ7 304 Lib.Math.min.name, Cond.static Lib.Math.min.name, Cond.code Lib.Math.min.name Lib.Math.min.code 2 (some .int), Cond.methodLink RJ7 150 arraycopyName, Cond.native arraycopyName, Cond.static arraycopyName, Cond.initialized "java/lang/System"]
def wsX11_act : List Cond := .code yX11_act cX11_act 8 (some .int) :: ((wsX11_act_r1 ++ (wsX11_act_r2 ++ (wsX11_act_r3 ++ (wsX11_act_r4 ++ (wsX11_act_r5 ++ wsX11_act_r6))))) ++ wsX110 ++ wsX70 ++ wsX00 ++ wsJx4a65c0 ++ wsX20 ++ wsX10 ++ wsX100 ++ (vx_atS RX11 87 "java/lang/IndexOutOfBoundsException" ["java/lang/RuntimeException", "java/lang/Exception"]).filter goodWord ++ (vx_atS RX11 62 "java/lang/IllegalArgumentException" ["java/lang/RuntimeException", "java/lang/Exception"]).filter goodWord ++ (vx_atS RX11 73 "java/lang/IllegalStateException" ["java/lang/RuntimeException", "java/lang/Exception"]).filter goodWord)
def wsX11_useStack : List Cond := .code yX11_useStack cX11_useStack 2 none :: ([.fieldLink RX11 121 "FieldScribe" "stacked" "Z"] ++ wsX110)
def wsX11_requireCode : List Cond := .code yX11_requireCode cX11_requireCode 1 none :: ([.classLink RX11 58 "java/lang/IllegalArgumentException", .initialized "java/lang/IllegalArgumentException"] ++ (vx_atS RX11 62 "java/lang/IllegalArgumentException" ["java/lang/RuntimeException", "java/lang/Exception"]).filter goodWord)
def wsX11_signOf : List Cond := .code yX11_signOf cX11_signOf 1 (some .char) :: ([])
def wsX11_setSeparator_r1 : List Cond := [Cond.fieldLink RX11 19 "FieldScribe" "page" "LFieldScribe$Page;", Cond.methodLink RX11 125 yX11_requireCode, Cond.static yX11_requireCode, Cond.initialized RX11, Cond.code yX11_requireCode cX11_requireCode 1 none, Cond.classLink RX11 58 "java/lang/IllegalArgumentException", Cond.initialized "java/lang/IllegalArgumentException", Cond.methodLink RX11 129 yX11_signOf, Cond.static yX11_signOf, Cond.code yX11_signOf cX11_signOf 1 (some .char), Cond.methodLink RX11 137 yX4_cut, Cond.instanceMethod yX4_cut, Cond.selects RX4 yX4_cut yX4_cut, Cond.initialized RX4, Cond.code yX4_cut cX4_cut 3 none, Cond.fieldLink RX4 18 "FieldScribe$Page" "pieces" "[LFieldScribe$Text;", Cond.fieldLink RX4 12 "FieldScribe$Page" "whole" "LFieldScribe$Text;", Cond.fieldLink RX4 34 "FieldScribe$Page" "count" "I", Cond.fieldLink RX4 22 "FieldScribe$Page" "separator" "C", Cond.methodLink RX4 51 yX10_clear, Cond.instanceMethod yX10_clear, Cond.selects RX10 yX10_clear yX10_clear, Cond.initialized RX10, Cond.code yX10_clear cX10_clear 1 none]
def wsX11_setSeparator_r2 : List Cond := [Cond.fieldLink RX10 15 "FieldScribe$Text" "length" "I", Cond.methodLink RX4 64 yX10_at, Cond.instanceMethod yX10_at, Cond.selects RX10 yX10_at yX10_at, Cond.code yX10_at cX10_at 2 (some .char), Cond.fieldLink RX10 9 "FieldScribe$Text" "signs" "[C", Cond.methodLink RX4 26 yX4_get, Cond.instanceMethod yX4_get, Cond.selects RX4 yX4_get yX4_get, Cond.code yX4_get cX4_get 2 (some (.object "FieldScribe$Text")), Cond.methodLink RX4 54 yX10_put, Cond.instanceMethod yX10_put, Cond.selects RX10 yX10_put yX10_put, Cond.code yX10_put cX10_put 2 none]
def wsX11_setSeparator : List Cond := .code yX11_setSeparator cX11_setSeparator 2 (some .int) :: ((wsX11_setSeparator_r1 ++ wsX11_setSeparator_r2) ++ wsX110 ++ wsX40 ++ wsX100 ++ (vx_atS RX11 62 "java/lang/IllegalArgumentException" ["java/lang/RuntimeException", "java/lang/Exception"]).filter goodWord)
def wsX11_type : List Cond := .code yX11_type cX11_type 2 (some .int) :: ([.classLink RX11 69 "java/lang/IllegalStateException", .initialized "java/lang/IllegalStateException", .fieldLink RX11 47 "FieldScribe" "typed" "LFieldScribe$Text;", .methodLink RX11 125 yX11_requireCode, .static yX11_requireCode, .initialized RX11, .code yX11_requireCode cX11_requireCode 1 none, .classLink RX11 58 "java/lang/IllegalArgumentException", .initialized "java/lang/IllegalArgumentException", .methodLink RX11 129 yX11_signOf, .static yX11_signOf, .code yX11_signOf cX11_signOf 1 (some .char), .methodLink RX11 149 yX10_put, .instanceMethod yX10_put, .selects RX10 yX10_put yX10_put, .initialized RX10, .code yX10_put cX10_put 2 none, .fieldLink RX10 15 "FieldScribe$Text" "length" "I", .fieldLink RX10 9 "FieldScribe$Text" "signs" "[C"] ++ wsX110 ++ wsX100 ++ (vx_atS RX11 73 "java/lang/IllegalStateException" ["java/lang/RuntimeException", "java/lang/Exception"]).filter goodWord ++ (vx_atS RX11 62 "java/lang/IllegalArgumentException" ["java/lang/RuntimeException", "java/lang/Exception"]).filter goodWord)
def wsX11_perform_r1 : List Cond := [Cond.fieldLink RX11 19 "FieldScribe" "page" "LFieldScribe$Page;", Cond.fieldLink RX11 26 "FieldScribe" "table" "LFieldScribe$Table;", Cond.fieldLink RX11 205 "FieldScribe" "faultCount" "I", Cond.fieldLink RX11 121 "FieldScribe" "stacked" "Z", Cond.fieldLink RX11 40 "FieldScribe" "machine" "LFieldScribe$StackMachine;", Cond.fieldLink RX11 51 "FieldScribe" "value" "LFieldScribe$Text;", Cond.fieldLink RX11 33 "FieldScribe" "printout" "LFieldScribe$Printout;", Cond.methodLink RX11 177 yX4_get, Cond.instanceMethod yX4_get, Cond.selects RX4 yX4_get yX4_get, Cond.initialized RX4, Cond.code yX4_get cX4_get 2 (some (.object "FieldScribe$Text")), Cond.fieldLink RX4 18 "FieldScribe$Page" "pieces" "[LFieldScribe$Text;", Cond.fieldLink RX4 12 "FieldScribe$Page" "whole" "LFieldScribe$Text;", Cond.methodLink RX11 230 yX9_drop, Cond.instanceMethod yX9_drop, Cond.selects RX9 yX9_drop yX9_drop, Cond.initialized RX9, Cond.code yX9_drop cX9_drop 5 none, Cond.fieldLink RX9 18 "FieldScribe$Table" "count" "I", Cond.fieldLink RX9 11 "FieldScribe$Table" "all" "[LFieldScribe$Row;", Cond.methodLink RX9 36 yX9_find, Cond.instanceMethod yX9_find, Cond.selects RX9 yX9_find yX9_find]
def wsX11_perform_r2 : List Cond := [Cond.code yX9_find cX9_find 3 (some .int), Cond.methodLink RX9 22 yX9_get, Cond.instanceMethod yX9_get, Cond.selects RX9 yX9_get yX9_get, Cond.code yX9_get cX9_get 2 (some (.object "FieldScribe$Row")), Cond.methodLink RX9 30 yX10_hasSignsOf, Cond.instanceMethod yX10_hasSignsOf, Cond.selects RX10 yX10_hasSignsOf yX10_hasSignsOf, Cond.initialized RX10, Cond.code yX10_hasSignsOf cX10_hasSignsOf 2 (some .boolean), Cond.fieldLink RX10 15 "FieldScribe$Text" "length" "I", Cond.methodLink RX10 44 yX10_firstDifference, Cond.instanceMethod yX10_firstDifference, Cond.selects RX10 yX10_firstDifference yX10_firstDifference, Cond.code yX10_firstDifference cX10_firstDifference 3 (some .int), Cond.fieldLink RX10 9 "FieldScribe$Text" "signs" "[C", Cond.methodLink RX11 238 yX8_run, Cond.instanceMethod yX8_run, Cond.selects RX8 yX8_run yX8_run, Cond.initialized RX8, Cond.code yX8_run cX8_run 7 (some .int), Cond.fieldLink RX8 13 "FieldScribe$StackMachine" "stack" "[LFieldScribe$Text;", Cond.methodLink RX8 18 yX4_load, Cond.instanceMethod yX4_load]
def wsX11_perform_r3 : List Cond := [Cond.selects RX4 yX4_load yX4_load, Cond.code yX4_load cX4_load 3 none, Cond.fieldLink RX4 34 "FieldScribe$Page" "count" "I", Cond.fieldLink RX4 71 "FieldScribe$Page" "number" "I", Cond.methodLink RX4 68 yX10_write, Cond.instanceMethod yX10_write, Cond.selects RX10 yX10_write yX10_write, Cond.code yX10_write cX10_write 6 none, Cond.constantLong RX10 23 (1000000000), Cond.constantLong RX10 25 (48), Cond.constantLong RX10 27 (10), Cond.methodLink RX4 26 yX4_get, Cond.methodLink RX4 30 yX10_copy, Cond.instanceMethod yX10_copy, Cond.selects RX10 yX10_copy yX10_copy, Cond.code yX10_copy cX10_copy 3 none, Cond.static yX11_combine, Cond.initialized RX11, Cond.code yX11_combine cX11_combine 6 (some .int), Cond.methodLink RX11 268 yX10_add, Cond.instanceMethod yX10_add, Cond.selects RX10 yX10_add yX10_add, Cond.code yX10_add cX10_add 4 none, Cond.methodLink RX10 19 yX10_put]
def wsX11_perform_r4 : List Cond := [Cond.instanceMethod yX10_put, Cond.selects RX10 yX10_put yX10_put, Cond.code yX10_put cX10_put 2 none, Cond.methodLink RX11 180 yX10_asNumber, Cond.instanceMethod yX10_asNumber, Cond.selects RX10 yX10_asNumber yX10_asNumber, Cond.code yX10_asNumber cX10_asNumber 5 (some .int), Cond.methodLink RX10 29 yX10_numberLength, Cond.instanceMethod yX10_numberLength, Cond.selects RX10 yX10_numberLength yX10_numberLength, Cond.code yX10_numberLength cX10_numberLength 3 (some .int), Cond.methodLink RX10 33 yX10_at, Cond.instanceMethod yX10_at, Cond.selects RX10 yX10_at yX10_at, Cond.code yX10_at cX10_at 2 (some .char), Cond.methodLink RX11 270 yX11_calculate, Cond.static yX11_calculate, Cond.code yX11_calculate cX11_calculate 5 (some .long), Cond.methodLink RX11 274 yX11_isInt, Cond.static yX11_isInt, Cond.code yX11_isInt cX11_isInt 2 (some .boolean), Cond.constantLong RX11 280 (-2147483648), Cond.constantLong RX11 282 (2147483647), Cond.methodLink RX11 174 yX10_write]
def wsX11_perform_r5 : List Cond := [Cond.methodLink RX8 28 yX10_copy, Cond.methodLink RX11 246 ⟨"FieldScribe$Node", "find", "(LFieldScribe$Page;LFieldScribe$Text;)I"⟩, Cond.sameMethod "FieldScribe$Node" "FieldScribe$Node" "find" "(LFieldScribe$Page;LFieldScribe$Text;)I", Cond.selects RX1 ⟨"FieldScribe$Node", "find", "(LFieldScribe$Page;LFieldScribe$Text;)I"⟩ yX1_find, Cond.instanceMethod yX1_find, Cond.initialized RX1, Cond.code yX1_find cX1_find 4 (some .int), Cond.fieldLink RX1 20 "FieldScribe$Fork" "left" "LFieldScribe$Leaf;", Cond.fieldLink RX1 24 "FieldScribe$Fork" "right" "LFieldScribe$Leaf;", Cond.fieldLink RX1 10 "FieldScribe$Fork" "second" "LFieldScribe$Text;", Cond.fieldLink RX1 16 "FieldScribe$Fork" "operation" "I", Cond.methodLink RX1 27 yX2_find, Cond.instanceMethod yX2_find, Cond.selects RX2 yX2_find yX2_find, Cond.initialized RX2, Cond.code yX2_find cX2_find 3 (some .int), Cond.fieldLink RX2 7 "FieldScribe$Leaf" "operand" "I", Cond.methodLink RX2 13 yX4_load, Cond.selects RX2 ⟨"FieldScribe$Node", "find", "(LFieldScribe$Page;LFieldScribe$Text;)I"⟩ yX2_find, Cond.methodLink RX11 156 yX4_set, Cond.instanceMethod yX4_set, Cond.selects RX4 yX4_set yX4_set, Cond.code yX4_set cX4_set 3 none, Cond.methodLink RX4 38 Lib.Math.max.name]
def wsX11_perform_r6 : List Cond := [Cond.static Lib.Math.max.name, Cond.initialized "java/lang/Math", Cond.code Lib.Math.max.name Lib.Math.max.code 2 (some .int), Cond.methodLink RX4 44 yX4_join, Cond.instanceMethod yX4_join, Cond.selects RX4 yX4_join yX4_join, Cond.code yX4_join cX4_join 3 none, Cond.fieldLink RX4 22 "FieldScribe$Page" "separator" "C", Cond.methodLink RX4 51 yX10_clear, Cond.instanceMethod yX10_clear, Cond.selects RX10 yX10_clear yX10_clear, Cond.code yX10_clear cX10_clear 1 none, Cond.methodLink RX4 54 yX10_put, Cond.methodLink RX4 58 yX10_add, Cond.methodLink RX4 48 yX4_cut, Cond.instanceMethod yX4_cut, Cond.selects RX4 yX4_cut yX4_cut, Cond.code yX4_cut cX4_cut 3 none, Cond.methodLink RX4 64 yX10_at, Cond.methodLink RX11 252 yX9_grow, Cond.instanceMethod yX9_grow, Cond.selects RX9 yX9_grow yX9_grow, Cond.code yX9_grow cX9_grow 8 (some .int), Cond.methodLink RX9 40 yX10_copy]
def wsX11_perform_r7 : List Cond := [Cond.methodLink RX11 256 yX5_print, Cond.instanceMethod yX5_print, Cond.selects RX5 yX5_print yX5_print, Cond.initialized RX5, Cond.code yX5_print cX5_print 2 none, Cond.fieldLink RX5 22 "FieldScribe$Printout" "count" "I", Cond.fieldLink RX5 11 "FieldScribe$Printout" "ring" "[LFieldScribe$Text;", Cond.fieldLink RX5 18 "FieldScribe$Printout" "start" "I", Cond.methodLink RX5 25 yX5_get, Cond.instanceMethod yX5_get, Cond.selects RX5 yX5_get yX5_get, Cond.code yX5_get cX5_get 3 (some (.object "FieldScribe$Text")), Cond.methodLink RX5 29 yX10_copy]
def wsX11_perform : List Cond := .code yX11_perform cX11_perform 3 (some .boolean) :: ((wsX11_perform_r1 ++ (wsX11_perform_r2 ++ (wsX11_perform_r3 ++ (wsX11_perform_r4 ++ (wsX11_perform_r5 ++ (wsX11_perform_r6 ++ wsX11_perform_r7)))))) ++ wsX00 ++ wsX110 ++ wsX40 ++ wsX90 ++ wsX60 ++ wsX100 ++ wsX80 ++ wsX10 ++ wsX20 ++ wsX50)
def wsX11_performAll_r1 : List Cond := [Cond.classLink RX11 108 "FieldScribe$Action", Cond.methodLink RX11 65 yJx4a65c_size_8abf5, Cond.instanceMethod yJx4a65c_size_8abf5, Cond.selects RJx4a65c yJx4a65c_size_8abf5 yJx4a65c_size_8abf5, Cond.initialized RJx4a65c, Cond.code yJx4a65c_size_8abf5 cJx4a65c_size_8abf5 1 (some .int), Cond.fieldLink RJx4a65c 48 "java/util/ArrayList" "size" "I", Cond.methodLink RX11 99 yJx4a65c_get_915e3, Cond.instanceMethod yJx4a65c_get_915e3, Cond.selects RJx4a65c yJx4a65c_get_915e3 yJx4a65c_get_915e3, Cond.code yJx4a65c_get_915e3 cJx4a65c_get_915e3 2 (some (.object "java/lang/Object")), Cond.methodLink RJx4a65c 118 yJ15_checkIndex_7cf53, Cond.static yJ15_checkIndex_7cf53, Cond.initialized RJ15, Cond.code yJ15_checkIndex_7cf53 cJ15_checkIndex_7cf53 2 (some .int), Cond.methodLink RJ15 105 yJ3_checkIndex_8e157, Cond.static yJ3_checkIndex_8e157, Cond.initialized RJ3, Cond.code yJ3_checkIndex_8e157 cJ3_checkIndex_8e157 3 (some .int), Cond.methodLink RJx4a65c 123 yJx4a65c_elementData_915e3, Cond.instanceMethod yJx4a65c_elementData_915e3, Cond.selects RJx4a65c yJx4a65c_elementData_915e3 yJx4a65c_elementData_915e3, Cond.code yJx4a65c_elementData_915e3 cJx4a65c_elementData_915e3 2 (some (.object "java/lang/Object")), Cond.fieldLink RJx4a65c 9 "java/util/ArrayList" "elementData" "[Ljava/lang/Object;"]
def wsX11_performAll_r2 : List Cond := [Cond.methodLink RX11 220 yX11_perform, Cond.instanceMethod yX11_perform, Cond.selects RX11 yX11_perform yX11_perform, Cond.initialized RX11, Cond.code yX11_perform cX11_perform 3 (some .boolean), Cond.fieldLink RX11 19 "FieldScribe" "page" "LFieldScribe$Page;", Cond.fieldLink RX11 26 "FieldScribe" "table" "LFieldScribe$Table;", Cond.fieldLink RX11 205 "FieldScribe" "faultCount" "I", Cond.fieldLink RX11 121 "FieldScribe" "stacked" "Z", Cond.fieldLink RX11 40 "FieldScribe" "machine" "LFieldScribe$StackMachine;", Cond.fieldLink RX11 51 "FieldScribe" "value" "LFieldScribe$Text;", Cond.fieldLink RX11 33 "FieldScribe" "printout" "LFieldScribe$Printout;", Cond.methodLink RX11 177 yX4_get, Cond.instanceMethod yX4_get, Cond.selects RX4 yX4_get yX4_get, Cond.initialized RX4, Cond.code yX4_get cX4_get 2 (some (.object "FieldScribe$Text")), Cond.fieldLink RX4 18 "FieldScribe$Page" "pieces" "[LFieldScribe$Text;", Cond.fieldLink RX4 12 "FieldScribe$Page" "whole" "LFieldScribe$Text;", Cond.methodLink RX11 230 yX9_drop, Cond.instanceMethod yX9_drop, Cond.selects RX9 yX9_drop yX9_drop, Cond.initialized RX9, Cond.code yX9_drop cX9_drop 5 none]
def wsX11_performAll_r3 : List Cond := [Cond.fieldLink RX9 18 "FieldScribe$Table" "count" "I", Cond.fieldLink RX9 11 "FieldScribe$Table" "all" "[LFieldScribe$Row;", Cond.methodLink RX9 36 yX9_find, Cond.instanceMethod yX9_find, Cond.selects RX9 yX9_find yX9_find, Cond.code yX9_find cX9_find 3 (some .int), Cond.methodLink RX9 22 yX9_get, Cond.instanceMethod yX9_get, Cond.selects RX9 yX9_get yX9_get, Cond.code yX9_get cX9_get 2 (some (.object "FieldScribe$Row")), Cond.methodLink RX9 30 yX10_hasSignsOf, Cond.instanceMethod yX10_hasSignsOf, Cond.selects RX10 yX10_hasSignsOf yX10_hasSignsOf, Cond.initialized RX10, Cond.code yX10_hasSignsOf cX10_hasSignsOf 2 (some .boolean), Cond.fieldLink RX10 15 "FieldScribe$Text" "length" "I", Cond.methodLink RX10 44 yX10_firstDifference, Cond.instanceMethod yX10_firstDifference, Cond.selects RX10 yX10_firstDifference yX10_firstDifference, Cond.code yX10_firstDifference cX10_firstDifference 3 (some .int), Cond.fieldLink RX10 9 "FieldScribe$Text" "signs" "[C", Cond.methodLink RX11 238 yX8_run, Cond.instanceMethod yX8_run, Cond.selects RX8 yX8_run yX8_run]
def wsX11_performAll_r4 : List Cond := [Cond.initialized RX8, Cond.code yX8_run cX8_run 7 (some .int), Cond.fieldLink RX8 13 "FieldScribe$StackMachine" "stack" "[LFieldScribe$Text;", Cond.methodLink RX8 18 yX4_load, Cond.instanceMethod yX4_load, Cond.selects RX4 yX4_load yX4_load, Cond.code yX4_load cX4_load 3 none, Cond.fieldLink RX4 34 "FieldScribe$Page" "count" "I", Cond.fieldLink RX4 71 "FieldScribe$Page" "number" "I", Cond.methodLink RX4 68 yX10_write, Cond.instanceMethod yX10_write, Cond.selects RX10 yX10_write yX10_write, Cond.code yX10_write cX10_write 6 none, Cond.constantLong RX10 23 (1000000000), Cond.constantLong RX10 25 (48), Cond.constantLong RX10 27 (10), Cond.methodLink RX4 26 yX4_get, Cond.methodLink RX4 30 yX10_copy, Cond.instanceMethod yX10_copy, Cond.selects RX10 yX10_copy yX10_copy, Cond.code yX10_copy cX10_copy 3 none, Cond.static yX11_combine, Cond.code yX11_combine cX11_combine 6 (some .int), Cond.methodLink RX11 268 yX10_add]
def wsX11_performAll_r5 : List Cond := [Cond.instanceMethod yX10_add, Cond.selects RX10 yX10_add yX10_add, Cond.code yX10_add cX10_add 4 none, Cond.methodLink RX10 19 yX10_put, Cond.instanceMethod yX10_put, Cond.selects RX10 yX10_put yX10_put, Cond.code yX10_put cX10_put 2 none, Cond.methodLink RX11 180 yX10_asNumber, Cond.instanceMethod yX10_asNumber, Cond.selects RX10 yX10_asNumber yX10_asNumber, Cond.code yX10_asNumber cX10_asNumber 5 (some .int), Cond.methodLink RX10 29 yX10_numberLength, Cond.instanceMethod yX10_numberLength, Cond.selects RX10 yX10_numberLength yX10_numberLength, Cond.code yX10_numberLength cX10_numberLength 3 (some .int), Cond.methodLink RX10 33 yX10_at, Cond.instanceMethod yX10_at, Cond.selects RX10 yX10_at yX10_at, Cond.code yX10_at cX10_at 2 (some .char), Cond.methodLink RX11 270 yX11_calculate, Cond.static yX11_calculate, Cond.code yX11_calculate cX11_calculate 5 (some .long), Cond.methodLink RX11 274 yX11_isInt, Cond.static yX11_isInt]
def wsX11_performAll_r6 : List Cond := [Cond.code yX11_isInt cX11_isInt 2 (some .boolean), Cond.constantLong RX11 280 (-2147483648), Cond.constantLong RX11 282 (2147483647), Cond.methodLink RX11 174 yX10_write, Cond.methodLink RX8 28 yX10_copy, Cond.methodLink RX11 246 ⟨"FieldScribe$Node", "find", "(LFieldScribe$Page;LFieldScribe$Text;)I"⟩, Cond.sameMethod "FieldScribe$Node" "FieldScribe$Node" "find" "(LFieldScribe$Page;LFieldScribe$Text;)I", Cond.selects RX1 ⟨"FieldScribe$Node", "find", "(LFieldScribe$Page;LFieldScribe$Text;)I"⟩ yX1_find, Cond.instanceMethod yX1_find, Cond.initialized RX1, Cond.code yX1_find cX1_find 4 (some .int), Cond.fieldLink RX1 20 "FieldScribe$Fork" "left" "LFieldScribe$Leaf;", Cond.fieldLink RX1 24 "FieldScribe$Fork" "right" "LFieldScribe$Leaf;", Cond.fieldLink RX1 10 "FieldScribe$Fork" "second" "LFieldScribe$Text;", Cond.fieldLink RX1 16 "FieldScribe$Fork" "operation" "I", Cond.methodLink RX1 27 yX2_find, Cond.instanceMethod yX2_find, Cond.selects RX2 yX2_find yX2_find, Cond.initialized RX2, Cond.code yX2_find cX2_find 3 (some .int), Cond.fieldLink RX2 7 "FieldScribe$Leaf" "operand" "I", Cond.methodLink RX2 13 yX4_load, Cond.selects RX2 ⟨"FieldScribe$Node", "find", "(LFieldScribe$Page;LFieldScribe$Text;)I"⟩ yX2_find, Cond.methodLink RX11 156 yX4_set]
def wsX11_performAll_r7 : List Cond := [Cond.instanceMethod yX4_set, Cond.selects RX4 yX4_set yX4_set, Cond.code yX4_set cX4_set 3 none, Cond.methodLink RX4 38 Lib.Math.max.name, Cond.static Lib.Math.max.name, Cond.initialized "java/lang/Math", Cond.code Lib.Math.max.name Lib.Math.max.code 2 (some .int), Cond.methodLink RX4 44 yX4_join, Cond.instanceMethod yX4_join, Cond.selects RX4 yX4_join yX4_join, Cond.code yX4_join cX4_join 3 none, Cond.fieldLink RX4 22 "FieldScribe$Page" "separator" "C", Cond.methodLink RX4 51 yX10_clear, Cond.instanceMethod yX10_clear, Cond.selects RX10 yX10_clear yX10_clear, Cond.code yX10_clear cX10_clear 1 none, Cond.methodLink RX4 54 yX10_put, Cond.methodLink RX4 58 yX10_add, Cond.methodLink RX4 48 yX4_cut, Cond.instanceMethod yX4_cut, Cond.selects RX4 yX4_cut yX4_cut, Cond.code yX4_cut cX4_cut 3 none, Cond.methodLink RX4 64 yX10_at, Cond.methodLink RX11 252 yX9_grow]
def wsX11_performAll_r8 : List Cond := [Cond.instanceMethod yX9_grow, Cond.selects RX9 yX9_grow yX9_grow, Cond.code yX9_grow cX9_grow 8 (some .int), Cond.methodLink RX9 40 yX10_copy, Cond.methodLink RX11 256 yX5_print, Cond.instanceMethod yX5_print, Cond.selects RX5 yX5_print yX5_print, Cond.initialized RX5, Cond.code yX5_print cX5_print 2 none, Cond.fieldLink RX5 22 "FieldScribe$Printout" "count" "I", Cond.fieldLink RX5 11 "FieldScribe$Printout" "ring" "[LFieldScribe$Text;", Cond.fieldLink RX5 18 "FieldScribe$Printout" "start" "I", Cond.methodLink RX5 25 yX5_get, Cond.instanceMethod yX5_get, Cond.selects RX5 yX5_get yX5_get, Cond.code yX5_get cX5_get 3 (some (.object "FieldScribe$Text")), Cond.methodLink RX5 29 yX10_copy]
def wsX11_performAll : List Cond := .code yX11_performAll cX11_performAll 3 (some .boolean) :: ((wsX11_performAll_r1 ++ (wsX11_performAll_r2 ++ (wsX11_performAll_r3 ++ (wsX11_performAll_r4 ++ (wsX11_performAll_r5 ++ (wsX11_performAll_r6 ++ (wsX11_performAll_r7 ++ wsX11_performAll_r8))))))) ++ wsJx4a65c0 ++ wsX00 ++ wsX110 ++ wsX40 ++ wsX90 ++ wsX60 ++ wsX100 ++ wsX80 ++ wsX10 ++ wsX20 ++ wsX50)
def wsX11_end_r1 : List Cond := [Cond.fieldLink RX11 19 "FieldScribe" "page" "LFieldScribe$Page;", Cond.fieldLink RX11 47 "FieldScribe" "typed" "LFieldScribe$Text;", Cond.fieldLink RX11 12 "FieldScribe" "program" "Ljava/util/ArrayList;", Cond.classLink RX11 74 "FieldScribe$Rule", Cond.methodLink RX11 156 yX4_set, Cond.instanceMethod yX4_set, Cond.selects RX4 yX4_set yX4_set, Cond.initialized RX4, Cond.code yX4_set cX4_set 3 none, Cond.fieldLink RX4 34 "FieldScribe$Page" "count" "I", Cond.methodLink RX4 38 Lib.Math.max.name, Cond.static Lib.Math.max.name, Cond.initialized "java/lang/Math", Cond.code Lib.Math.max.name Lib.Math.max.code 2 (some .int), Cond.methodLink RX4 26 yX4_get, Cond.instanceMethod yX4_get, Cond.selects RX4 yX4_get yX4_get, Cond.code yX4_get cX4_get 2 (some (.object "FieldScribe$Text")), Cond.fieldLink RX4 18 "FieldScribe$Page" "pieces" "[LFieldScribe$Text;", Cond.fieldLink RX4 12 "FieldScribe$Page" "whole" "LFieldScribe$Text;", Cond.methodLink RX4 30 yX10_copy, Cond.instanceMethod yX10_copy, Cond.selects RX10 yX10_copy yX10_copy, Cond.initialized RX10]
def wsX11_end_r2 : List Cond := [Cond.code yX10_copy cX10_copy 3 none, Cond.fieldLink RX10 15 "FieldScribe$Text" "length" "I", Cond.fieldLink RX10 9 "FieldScribe$Text" "signs" "[C", Cond.methodLink RX4 44 yX4_join, Cond.instanceMethod yX4_join, Cond.selects RX4 yX4_join yX4_join, Cond.code yX4_join cX4_join 3 none, Cond.fieldLink RX4 22 "FieldScribe$Page" "separator" "C", Cond.methodLink RX4 51 yX10_clear, Cond.instanceMethod yX10_clear, Cond.selects RX10 yX10_clear yX10_clear, Cond.code yX10_clear cX10_clear 1 none, Cond.methodLink RX4 54 yX10_put, Cond.instanceMethod yX10_put, Cond.selects RX10 yX10_put yX10_put, Cond.code yX10_put cX10_put 2 none, Cond.methodLink RX4 58 yX10_add, Cond.instanceMethod yX10_add, Cond.selects RX10 yX10_add yX10_add, Cond.code yX10_add cX10_add 4 none, Cond.methodLink RX10 19 yX10_put, Cond.methodLink RX4 48 yX4_cut, Cond.instanceMethod yX4_cut, Cond.selects RX4 yX4_cut yX4_cut]
def wsX11_end_r3 : List Cond := [Cond.code yX4_cut cX4_cut 3 none, Cond.methodLink RX4 64 yX10_at, Cond.instanceMethod yX10_at, Cond.selects RX10 yX10_at yX10_at, Cond.code yX10_at cX10_at 2 (some .char), Cond.methodLink RX11 160 yX10_clear, Cond.methodLink RX11 65 yJx4a65c_size_8abf5, Cond.instanceMethod yJx4a65c_size_8abf5, Cond.selects RJx4a65c yJx4a65c_size_8abf5 yJx4a65c_size_8abf5, Cond.initialized RJx4a65c, Cond.code yJx4a65c_size_8abf5 cJx4a65c_size_8abf5 1 (some .int), Cond.fieldLink RJx4a65c 48 "java/util/ArrayList" "size" "I", Cond.methodLink RX11 99 yJx4a65c_get_915e3, Cond.instanceMethod yJx4a65c_get_915e3, Cond.selects RJx4a65c yJx4a65c_get_915e3 yJx4a65c_get_915e3, Cond.code yJx4a65c_get_915e3 cJx4a65c_get_915e3 2 (some (.object "java/lang/Object")), Cond.methodLink RJx4a65c 118 yJ15_checkIndex_7cf53, Cond.static yJ15_checkIndex_7cf53, Cond.initialized RJ15, Cond.code yJ15_checkIndex_7cf53 cJ15_checkIndex_7cf53 2 (some .int), Cond.methodLink RJ15 105 yJ3_checkIndex_8e157, Cond.static yJ3_checkIndex_8e157, Cond.initialized RJ3, Cond.code yJ3_checkIndex_8e157 cJ3_checkIndex_8e157 3 (some .int)]
def wsX11_end_r4 : List Cond := [Cond.methodLink RJx4a65c 123 yJx4a65c_elementData_915e3, Cond.instanceMethod yJx4a65c_elementData_915e3, Cond.selects RJx4a65c yJx4a65c_elementData_915e3 yJx4a65c_elementData_915e3, Cond.code yJx4a65c_elementData_915e3 cJx4a65c_elementData_915e3 2 (some (.object "java/lang/Object")), Cond.fieldLink RJx4a65c 9 "java/util/ArrayList" "elementData" "[Ljava/lang/Object;", Cond.methodLink RX11 163 yX7_isTrue, Cond.instanceMethod yX7_isTrue, Cond.selects RX7 yX7_isTrue yX7_isTrue, Cond.initialized RX7, Cond.code yX7_isTrue cX7_isTrue 2 (some .boolean), Cond.fieldLink RX7 18 "FieldScribe$Rule" "pattern" "I", Cond.fieldLink RX7 22 "FieldScribe$Rule" "a" "I", Cond.fieldLink RX7 25 "FieldScribe$Rule" "b" "I", Cond.methodLink RX7 28 yX4_get, Cond.methodLink RX7 34 yX10_isSameAs, Cond.instanceMethod yX10_isSameAs, Cond.selects RX10 yX10_isSameAs yX10_isSameAs, Cond.code yX10_isSameAs cX10_isSameAs 2 (some .boolean), Cond.methodLink RX10 37 yX10_isNumeric, Cond.instanceMethod yX10_isNumeric, Cond.selects RX10 yX10_isNumeric yX10_isNumeric, Cond.code yX10_isNumeric cX10_isNumeric 1 (some .boolean), Cond.methodLink RX10 29 yX10_numberLength, Cond.instanceMethod yX10_numberLength]
def wsX11_end_r5 : List Cond := [Cond.selects RX10 yX10_numberLength yX10_numberLength, Cond.code yX10_numberLength cX10_numberLength 3 (some .int), Cond.methodLink RX10 41 yX10_asNumber, Cond.instanceMethod yX10_asNumber, Cond.selects RX10 yX10_asNumber yX10_asNumber, Cond.code yX10_asNumber cX10_asNumber 5 (some .int), Cond.methodLink RX10 33 yX10_at, Cond.methodLink RX7 40 yX10_isLessThan, Cond.instanceMethod yX10_isLessThan, Cond.selects RX10 yX10_isLessThan yX10_isLessThan, Cond.code yX10_isLessThan cX10_isLessThan 3 (some .boolean), Cond.methodLink RX10 44 yX10_firstDifference, Cond.instanceMethod yX10_firstDifference, Cond.selects RX10 yX10_firstDifference yX10_firstDifference, Cond.code yX10_firstDifference cX10_firstDifference 3 (some .int), Cond.static yX11_rankOf, Cond.initialized RX11, Cond.code yX11_rankOf cX11_rankOf 1 (some .int), Cond.methodLink RX7 44 yX7_isInRange, Cond.instanceMethod yX7_isInRange, Cond.selects RX7 yX7_isInRange yX7_isInRange, Cond.code yX7_isInRange cX7_isInRange 2 (some .boolean), Cond.fieldLink RX7 47 "FieldScribe$Rule" "open" "Z", Cond.methodLink RX11 167 yX11_performAll]
def wsX11_end_r6 : List Cond := [Cond.instanceMethod yX11_performAll, Cond.selects RX11 yX11_performAll yX11_performAll, Cond.code yX11_performAll cX11_performAll 3 (some .boolean), Cond.classLink RX11 108 "FieldScribe$Action", Cond.methodLink RX11 220 yX11_perform, Cond.instanceMethod yX11_perform, Cond.selects RX11 yX11_perform yX11_perform, Cond.code yX11_perform cX11_perform 3 (some .boolean), Cond.fieldLink RX11 26 "FieldScribe" "table" "LFieldScribe$Table;", Cond.fieldLink RX11 205 "FieldScribe" "faultCount" "I", Cond.fieldLink RX11 121 "FieldScribe" "stacked" "Z", Cond.fieldLink RX11 40 "FieldScribe" "machine" "LFieldScribe$StackMachine;", Cond.fieldLink RX11 51 "FieldScribe" "value" "LFieldScribe$Text;", Cond.fieldLink RX11 33 "FieldScribe" "printout" "LFieldScribe$Printout;", Cond.methodLink RX11 177 yX4_get, Cond.methodLink RX11 230 yX9_drop, Cond.instanceMethod yX9_drop, Cond.selects RX9 yX9_drop yX9_drop, Cond.initialized RX9, Cond.code yX9_drop cX9_drop 5 none, Cond.fieldLink RX9 18 "FieldScribe$Table" "count" "I", Cond.fieldLink RX9 11 "FieldScribe$Table" "all" "[LFieldScribe$Row;", Cond.methodLink RX9 36 yX9_find, Cond.instanceMethod yX9_find]
def wsX11_end_r7 : List Cond := [Cond.selects RX9 yX9_find yX9_find, Cond.code yX9_find cX9_find 3 (some .int), Cond.methodLink RX9 22 yX9_get, Cond.instanceMethod yX9_get, Cond.selects RX9 yX9_get yX9_get, Cond.code yX9_get cX9_get 2 (some (.object "FieldScribe$Row")), Cond.methodLink RX9 30 yX10_hasSignsOf, Cond.instanceMethod yX10_hasSignsOf, Cond.selects RX10 yX10_hasSignsOf yX10_hasSignsOf, Cond.code yX10_hasSignsOf cX10_hasSignsOf 2 (some .boolean), Cond.methodLink RX11 238 yX8_run, Cond.instanceMethod yX8_run, Cond.selects RX8 yX8_run yX8_run, Cond.initialized RX8, Cond.code yX8_run cX8_run 7 (some .int), Cond.fieldLink RX8 13 "FieldScribe$StackMachine" "stack" "[LFieldScribe$Text;", Cond.methodLink RX8 18 yX4_load, Cond.instanceMethod yX4_load, Cond.selects RX4 yX4_load yX4_load, Cond.code yX4_load cX4_load 3 none, Cond.fieldLink RX4 71 "FieldScribe$Page" "number" "I", Cond.methodLink RX4 68 yX10_write, Cond.instanceMethod yX10_write, Cond.selects RX10 yX10_write yX10_write]
def wsX11_end_r8 : List Cond := [Cond.code yX10_write cX10_write 6 none, Cond.constantLong RX10 23 (1000000000), Cond.constantLong RX10 25 (48), Cond.constantLong RX10 27 (10), Cond.static yX11_combine, Cond.code yX11_combine cX11_combine 6 (some .int), Cond.methodLink RX11 268 yX10_add, Cond.methodLink RX11 180 yX10_asNumber, Cond.methodLink RX11 270 yX11_calculate, Cond.static yX11_calculate, Cond.code yX11_calculate cX11_calculate 5 (some .long), Cond.methodLink RX11 274 yX11_isInt, Cond.static yX11_isInt, Cond.code yX11_isInt cX11_isInt 2 (some .boolean), Cond.constantLong RX11 280 (-2147483648), Cond.constantLong RX11 282 (2147483647), Cond.methodLink RX11 174 yX10_write, Cond.methodLink RX8 28 yX10_copy, Cond.methodLink RX11 246 ⟨"FieldScribe$Node", "find", "(LFieldScribe$Page;LFieldScribe$Text;)I"⟩, Cond.sameMethod "FieldScribe$Node" "FieldScribe$Node" "find" "(LFieldScribe$Page;LFieldScribe$Text;)I", Cond.selects RX1 ⟨"FieldScribe$Node", "find", "(LFieldScribe$Page;LFieldScribe$Text;)I"⟩ yX1_find, Cond.instanceMethod yX1_find, Cond.initialized RX1, Cond.code yX1_find cX1_find 4 (some .int)]
def wsX11_end_r9 : List Cond := [Cond.fieldLink RX1 20 "FieldScribe$Fork" "left" "LFieldScribe$Leaf;", Cond.fieldLink RX1 24 "FieldScribe$Fork" "right" "LFieldScribe$Leaf;", Cond.fieldLink RX1 10 "FieldScribe$Fork" "second" "LFieldScribe$Text;", Cond.fieldLink RX1 16 "FieldScribe$Fork" "operation" "I", Cond.methodLink RX1 27 yX2_find, Cond.instanceMethod yX2_find, Cond.selects RX2 yX2_find yX2_find, Cond.initialized RX2, Cond.code yX2_find cX2_find 3 (some .int), Cond.fieldLink RX2 7 "FieldScribe$Leaf" "operand" "I", Cond.methodLink RX2 13 yX4_load, Cond.selects RX2 ⟨"FieldScribe$Node", "find", "(LFieldScribe$Page;LFieldScribe$Text;)I"⟩ yX2_find, Cond.methodLink RX11 252 yX9_grow, Cond.instanceMethod yX9_grow, Cond.selects RX9 yX9_grow yX9_grow, Cond.code yX9_grow cX9_grow 8 (some .int), Cond.methodLink RX9 40 yX10_copy, Cond.methodLink RX11 256 yX5_print, Cond.instanceMethod yX5_print, Cond.selects RX5 yX5_print yX5_print, Cond.initialized RX5, Cond.code yX5_print cX5_print 2 none, Cond.fieldLink RX5 22 "FieldScribe$Printout" "count" "I", Cond.fieldLink RX5 11 "FieldScribe$Printout" "ring" "[LFieldScribe$Text;"]
def wsX11_end_r10 : List Cond := [Cond.fieldLink RX5 18 "FieldScribe$Printout" "start" "I", Cond.methodLink RX5 25 yX5_get, Cond.instanceMethod yX5_get, Cond.selects RX5 yX5_get yX5_get, Cond.code yX5_get cX5_get 3 (some (.object "FieldScribe$Text")), Cond.methodLink RX5 29 yX10_copy]
def wsX11_end : List Cond := .code yX11_end cX11_end 5 (some .int) :: ((wsX11_end_r1 ++ (wsX11_end_r2 ++ (wsX11_end_r3 ++ (wsX11_end_r4 ++ (wsX11_end_r5 ++ (wsX11_end_r6 ++ (wsX11_end_r7 ++ (wsX11_end_r8 ++ (wsX11_end_r9 ++ wsX11_end_r10))))))))) ++ wsX110 ++ wsX40 ++ wsX70 ++ wsX100 ++ wsJx4a65c0 ++ wsX00 ++ wsX90 ++ wsX60 ++ wsX80 ++ wsX10 ++ wsX20 ++ wsX50)
def wsX11_requireField : List Cond := .code yX11_requireField cX11_requireField 1 none :: ([.classLink RX11 83 "java/lang/IndexOutOfBoundsException", .initialized "java/lang/IndexOutOfBoundsException", .methodLink RX11 88 yX11_isField, .static yX11_isField, .initialized RX11, .code yX11_isField cX11_isField 1 (some .boolean)] ++ (vx_atS RX11 87 "java/lang/IndexOutOfBoundsException" ["java/lang/RuntimeException", "java/lang/Exception"]).filter goodWord)
def wsX11_setField_r1 : List Cond := [Cond.fieldLink RX11 51 "FieldScribe" "value" "LFieldScribe$Text;", Cond.fieldLink RX11 19 "FieldScribe" "page" "LFieldScribe$Page;", Cond.methodLink RX11 171 yX11_requireField, Cond.static yX11_requireField, Cond.initialized RX11, Cond.code yX11_requireField cX11_requireField 1 none, Cond.classLink RX11 83 "java/lang/IndexOutOfBoundsException", Cond.initialized "java/lang/IndexOutOfBoundsException", Cond.methodLink RX11 88 yX11_isField, Cond.static yX11_isField, Cond.code yX11_isField cX11_isField 1 (some .boolean), Cond.methodLink RX11 174 yX10_write, Cond.instanceMethod yX10_write, Cond.selects RX10 yX10_write yX10_write, Cond.initialized RX10, Cond.code yX10_write cX10_write 6 none, Cond.fieldLink RX10 15 "FieldScribe$Text" "length" "I", Cond.fieldLink RX10 9 "FieldScribe$Text" "signs" "[C", Cond.constantLong RX10 23 (1000000000), Cond.constantLong RX10 25 (48), Cond.constantLong RX10 27 (10), Cond.methodLink RX11 156 yX4_set, Cond.instanceMethod yX4_set, Cond.selects RX4 yX4_set yX4_set]
def wsX11_setField_r2 : List Cond := [Cond.initialized RX4, Cond.code yX4_set cX4_set 3 none, Cond.fieldLink RX4 34 "FieldScribe$Page" "count" "I", Cond.methodLink RX4 38 Lib.Math.max.name, Cond.static Lib.Math.max.name, Cond.initialized "java/lang/Math", Cond.code Lib.Math.max.name Lib.Math.max.code 2 (some .int), Cond.methodLink RX4 26 yX4_get, Cond.instanceMethod yX4_get, Cond.selects RX4 yX4_get yX4_get, Cond.code yX4_get cX4_get 2 (some (.object "FieldScribe$Text")), Cond.fieldLink RX4 18 "FieldScribe$Page" "pieces" "[LFieldScribe$Text;", Cond.fieldLink RX4 12 "FieldScribe$Page" "whole" "LFieldScribe$Text;", Cond.methodLink RX4 30 yX10_copy, Cond.instanceMethod yX10_copy, Cond.selects RX10 yX10_copy yX10_copy, Cond.code yX10_copy cX10_copy 3 none, Cond.methodLink RX4 44 yX4_join, Cond.instanceMethod yX4_join, Cond.selects RX4 yX4_join yX4_join, Cond.code yX4_join cX4_join 3 none, Cond.fieldLink RX4 22 "FieldScribe$Page" "separator" "C", Cond.methodLink RX4 51 yX10_clear, Cond.instanceMethod yX10_clear]
def wsX11_setField_r3 : List Cond := [Cond.selects RX10 yX10_clear yX10_clear, Cond.code yX10_clear cX10_clear 1 none, Cond.methodLink RX4 54 yX10_put, Cond.instanceMethod yX10_put, Cond.selects RX10 yX10_put yX10_put, Cond.code yX10_put cX10_put 2 none, Cond.methodLink RX4 58 yX10_add, Cond.instanceMethod yX10_add, Cond.selects RX10 yX10_add yX10_add, Cond.code yX10_add cX10_add 4 none, Cond.methodLink RX10 19 yX10_put, Cond.methodLink RX4 48 yX4_cut, Cond.instanceMethod yX4_cut, Cond.selects RX4 yX4_cut yX4_cut, Cond.code yX4_cut cX4_cut 3 none, Cond.methodLink RX4 64 yX10_at, Cond.instanceMethod yX10_at, Cond.selects RX10 yX10_at yX10_at, Cond.code yX10_at cX10_at 2 (some .char)]
def wsX11_setField : List Cond := .code yX11_setField cX11_setField 3 (some .int) :: ((wsX11_setField_r1 ++ (wsX11_setField_r2 ++ wsX11_setField_r3)) ++ wsX110 ++ wsX40 ++ wsX100 ++ (vx_atS RX11 87 "java/lang/IndexOutOfBoundsException" ["java/lang/RuntimeException", "java/lang/Exception"]).filter goodWord)
def wsX11_fields : List Cond := .code yX11_fields cX11_fields 1 (some .int) :: ([.fieldLink RX11 19 "FieldScribe" "page" "LFieldScribe$Page;"] ++ wsX110 ++ wsX40)
def wsX11_number_r1 : List Cond := [Cond.fieldLink RX11 19 "FieldScribe" "page" "LFieldScribe$Page;", Cond.methodLink RX11 171 yX11_requireField, Cond.static yX11_requireField, Cond.initialized RX11, Cond.code yX11_requireField cX11_requireField 1 none, Cond.classLink RX11 83 "java/lang/IndexOutOfBoundsException", Cond.initialized "java/lang/IndexOutOfBoundsException", Cond.methodLink RX11 88 yX11_isField, Cond.static yX11_isField, Cond.code yX11_isField cX11_isField 1 (some .boolean), Cond.methodLink RX11 177 yX4_get, Cond.instanceMethod yX4_get, Cond.selects RX4 yX4_get yX4_get, Cond.initialized RX4, Cond.code yX4_get cX4_get 2 (some (.object "FieldScribe$Text")), Cond.fieldLink RX4 18 "FieldScribe$Page" "pieces" "[LFieldScribe$Text;", Cond.fieldLink RX4 12 "FieldScribe$Page" "whole" "LFieldScribe$Text;", Cond.methodLink RX11 180 yX10_asNumber, Cond.instanceMethod yX10_asNumber, Cond.selects RX10 yX10_asNumber yX10_asNumber, Cond.initialized RX10, Cond.code yX10_asNumber cX10_asNumber 5 (some .int), Cond.fieldLink RX10 9 "FieldScribe$Text" "signs" "[C", Cond.methodLink RX10 29 yX10_numberLength]
def wsX11_number_r2 : List Cond := [Cond.instanceMethod yX10_numberLength, Cond.selects RX10 yX10_numberLength yX10_numberLength, Cond.code yX10_numberLength cX10_numberLength 3 (some .int), Cond.fieldLink RX10 15 "FieldScribe$Text" "length" "I", Cond.methodLink RX10 33 yX10_at, Cond.instanceMethod yX10_at, Cond.selects RX10 yX10_at yX10_at, Cond.code yX10_at cX10_at 2 (some .char)]
def wsX11_number : List Cond := .code yX11_number cX11_number 2 (some .int) :: ((wsX11_number_r1 ++ wsX11_number_r2) ++ wsX110 ++ wsX40 ++ wsX100 ++ (vx_atS RX11 87 "java/lang/IndexOutOfBoundsException" ["java/lang/RuntimeException", "java/lang/Exception"]).filter goodWord)
def wsX11_requirePlace : List Cond := .code yX11_requirePlace cX11_requirePlace 2 none :: ([.classLink RX11 83 "java/lang/IndexOutOfBoundsException", .initialized "java/lang/IndexOutOfBoundsException"] ++ (vx_atS RX11 87 "java/lang/IndexOutOfBoundsException" ["java/lang/RuntimeException", "java/lang/Exception"]).filter goodWord)
def wsX11_signAt : List Cond := .code yX11_signAt cX11_signAt 2 (some .char) :: ([.methodLink RX11 188 yX11_requirePlace, .static yX11_requirePlace, .initialized RX11, .code yX11_requirePlace cX11_requirePlace 2 none, .classLink RX11 83 "java/lang/IndexOutOfBoundsException", .initialized "java/lang/IndexOutOfBoundsException", .methodLink RX11 217 yX10_at, .instanceMethod yX10_at, .selects RX10 yX10_at yX10_at, .initialized RX10, .code yX10_at cX10_at 2 (some .char), .fieldLink RX10 15 "FieldScribe$Text" "length" "I", .fieldLink RX10 9 "FieldScribe$Text" "signs" "[C"] ++ wsX100 ++ (vx_atS RX11 87 "java/lang/IndexOutOfBoundsException" ["java/lang/RuntimeException", "java/lang/Exception"]).filter goodWord)
def wsX11_character_r1 : List Cond := [Cond.fieldLink RX11 19 "FieldScribe" "page" "LFieldScribe$Page;", Cond.methodLink RX11 171 yX11_requireField, Cond.static yX11_requireField, Cond.initialized RX11, Cond.code yX11_requireField cX11_requireField 1 none, Cond.classLink RX11 83 "java/lang/IndexOutOfBoundsException", Cond.initialized "java/lang/IndexOutOfBoundsException", Cond.methodLink RX11 88 yX11_isField, Cond.static yX11_isField, Cond.code yX11_isField cX11_isField 1 (some .boolean), Cond.methodLink RX11 177 yX4_get, Cond.instanceMethod yX4_get, Cond.selects RX4 yX4_get yX4_get, Cond.initialized RX4, Cond.code yX4_get cX4_get 2 (some (.object "FieldScribe$Text")), Cond.fieldLink RX4 18 "FieldScribe$Page" "pieces" "[LFieldScribe$Text;", Cond.fieldLink RX4 12 "FieldScribe$Page" "whole" "LFieldScribe$Text;", Cond.methodLink RX11 183 yX11_signAt, Cond.static yX11_signAt, Cond.code yX11_signAt cX11_signAt 2 (some .char), Cond.methodLink RX11 188 yX11_requirePlace, Cond.static yX11_requirePlace, Cond.code yX11_requirePlace cX11_requirePlace 2 none, Cond.methodLink RX11 217 yX10_at]
def wsX11_character_r2 : List Cond := [Cond.instanceMethod yX10_at, Cond.selects RX10 yX10_at yX10_at, Cond.initialized RX10, Cond.code yX10_at cX10_at 2 (some .char), Cond.fieldLink RX10 15 "FieldScribe$Text" "length" "I", Cond.fieldLink RX10 9 "FieldScribe$Text" "signs" "[C"]
def wsX11_character : List Cond := .code yX11_character cX11_character 3 (some .char) :: ((wsX11_character_r1 ++ wsX11_character_r2) ++ wsX110 ++ wsX40 ++ wsX100 ++ (vx_atS RX11 87 "java/lang/IndexOutOfBoundsException" ["java/lang/RuntimeException", "java/lang/Exception"]).filter goodWord)
def wsX11_rows : List Cond := .code yX11_rows cX11_rows 1 (some .int) :: ([.fieldLink RX11 26 "FieldScribe" "table" "LFieldScribe$Table;"] ++ wsX110 ++ wsX90)
def wsX11_row : List Cond := .code yX11_row cX11_row 2 (some .int) :: ([.fieldLink RX11 26 "FieldScribe" "table" "LFieldScribe$Table;", .methodLink RX11 188 yX11_requirePlace, .static yX11_requirePlace, .initialized RX11, .code yX11_requirePlace cX11_requirePlace 2 none, .classLink RX11 83 "java/lang/IndexOutOfBoundsException", .initialized "java/lang/IndexOutOfBoundsException", .methodLink RX11 192 yX9_get, .instanceMethod yX9_get, .selects RX9 yX9_get yX9_get, .initialized RX9, .code yX9_get cX9_get 2 (some (.object "FieldScribe$Row")), .fieldLink RX9 11 "FieldScribe$Table" "all" "[LFieldScribe$Row;"] ++ wsX110 ++ wsX90 ++ wsX60 ++ (vx_atS RX11 87 "java/lang/IndexOutOfBoundsException" ["java/lang/RuntimeException", "java/lang/Exception"]).filter goodWord)
def wsX11_key : List Cond := .code yX11_key cX11_key 3 (some .char) :: ([.fieldLink RX11 26 "FieldScribe" "table" "LFieldScribe$Table;", .methodLink RX11 188 yX11_requirePlace, .static yX11_requirePlace, .initialized RX11, .code yX11_requirePlace cX11_requirePlace 2 none, .classLink RX11 83 "java/lang/IndexOutOfBoundsException", .initialized "java/lang/IndexOutOfBoundsException", .methodLink RX11 192 yX9_get, .instanceMethod yX9_get, .selects RX9 yX9_get yX9_get, .initialized RX9, .code yX9_get cX9_get 2 (some (.object "FieldScribe$Row")), .fieldLink RX9 11 "FieldScribe$Table" "all" "[LFieldScribe$Row;", .methodLink RX11 183 yX11_signAt, .static yX11_signAt, .code yX11_signAt cX11_signAt 2 (some .char), .methodLink RX11 217 yX10_at, .instanceMethod yX10_at, .selects RX10 yX10_at yX10_at, .initialized RX10, .code yX10_at cX10_at 2 (some .char), .fieldLink RX10 15 "FieldScribe$Text" "length" "I", .fieldLink RX10 9 "FieldScribe$Text" "signs" "[C"] ++ wsX110 ++ wsX90 ++ wsX60 ++ wsX100 ++ (vx_atS RX11 87 "java/lang/IndexOutOfBoundsException" ["java/lang/RuntimeException", "java/lang/Exception"]).filter goodWord)
def wsX11_lines : List Cond := .code yX11_lines cX11_lines 1 (some .int) :: ([.fieldLink RX11 33 "FieldScribe" "printout" "LFieldScribe$Printout;"] ++ wsX110 ++ wsX50)
def wsX11_line : List Cond := .code yX11_line cX11_line 3 (some .char) :: ([.fieldLink RX11 33 "FieldScribe" "printout" "LFieldScribe$Printout;", .methodLink RX11 188 yX11_requirePlace, .static yX11_requirePlace, .initialized RX11, .code yX11_requirePlace cX11_requirePlace 2 none, .classLink RX11 83 "java/lang/IndexOutOfBoundsException", .initialized "java/lang/IndexOutOfBoundsException", .methodLink RX11 204 yX5_get, .instanceMethod yX5_get, .selects RX5 yX5_get yX5_get, .initialized RX5, .code yX5_get cX5_get 3 (some (.object "FieldScribe$Text")), .fieldLink RX5 18 "FieldScribe$Printout" "start" "I", .fieldLink RX5 11 "FieldScribe$Printout" "ring" "[LFieldScribe$Text;", .methodLink RX11 183 yX11_signAt, .static yX11_signAt, .code yX11_signAt cX11_signAt 2 (some .char), .methodLink RX11 217 yX10_at, .instanceMethod yX10_at, .selects RX10 yX10_at yX10_at, .initialized RX10, .code yX10_at cX10_at 2 (some .char), .fieldLink RX10 15 "FieldScribe$Text" "length" "I", .fieldLink RX10 9 "FieldScribe$Text" "signs" "[C"] ++ wsX110 ++ wsX50 ++ wsX100 ++ (vx_atS RX11 87 "java/lang/IndexOutOfBoundsException" ["java/lang/RuntimeException", "java/lang/Exception"]).filter goodWord)
def wsX11_faults : List Cond := .code yX11_faults cX11_faults 1 (some .int) :: ([.fieldLink RX11 205 "FieldScribe" "faultCount" "I"] ++ wsX110)
def wsX12_init_r1 : List Cond := [Cond.methodLink RX12 1 objectInit, Cond.instanceMethod objectInit, Cond.code objectInit ⟨#[0xb1]⟩ 1 none, Cond.fieldLink RX12 7 "FieldScribeModel" "separator" "I", Cond.arrayClass .int, Cond.fieldLink RX12 13 "FieldScribeModel" "record" "[I", Cond.fieldLink RX12 17 "FieldScribeModel" "begins" "[I", Cond.fieldLink RX12 20 "FieldScribeModel" "ends" "[I", Cond.fieldLink RX12 23 "FieldScribeModel" "typed" "[I", Cond.fieldLink RX12 26 "FieldScribeModel" "pattern" "[I", Cond.fieldLink RX12 29 "FieldScribeModel" "first" "[I", Cond.fieldLink RX12 32 "FieldScribeModel" "second" "[I", Cond.arrayClass .boolean, Cond.fieldLink RX12 35 "FieldScribeModel" "isOn" "[Z", Cond.fieldLink RX12 39 "FieldScribeModel" "actions" "[I", Cond.fieldLink RX12 42 "FieldScribeModel" "kind" "[I", Cond.fieldLink RX12 45 "FieldScribeModel" "field" "[I", Cond.fieldLink RX12 48 "FieldScribeModel" "operation" "[I", Cond.fieldLink RX12 51 "FieldScribeModel" "x" "[I", Cond.fieldLink RX12 54 "FieldScribeModel" "y" "[I", Cond.fieldLink RX12 57 "FieldScribeModel" "keys" "[I", Cond.fieldLink RX12 60 "FieldScribeModel" "keyLength" "[I", Cond.fieldLink RX12 63 "FieldScribeModel" "sums" "[I", Cond.fieldLink RX12 66 "FieldScribeModel" "printed" "[I"]
def wsX12_init_r2 : List Cond := [Cond.fieldLink RX12 69 "FieldScribeModel" "printedLength" "[I", Cond.fieldLink RX12 72 "FieldScribeModel" "value" "[I", Cond.fieldLink RX12 75 "FieldScribeModel" "made" "[I", Cond.fieldLink RX12 78 "FieldScribeModel" "digits" "[I"]
def wsX12_init : List Cond := .code yX12_init cX12_init 1 none :: ((wsX12_init_r1 ++ wsX12_init_r2) ++ wsX120)
def wsX12_thrown : List Cond := .code yX12_thrown cX12_thrown 1 (some .int) :: ([.fieldLink RX12 81 "FieldScribeModel" "thrown" "I"] ++ wsX120)
def wsX12_fails : List Cond := .code yX12_fails cX12_fails 2 (some .boolean) :: ([.fieldLink RX12 81 "FieldScribeModel" "thrown" "I"] ++ wsX120)
def wsX12_isIn : List Cond := .code yX12_isIn cX12_isIn 3 (some .boolean) :: ([])
def wsX12_letter : List Cond := .code yX12_letter cX12_letter 1 (some .int) :: ([])
def wsX12_isField : List Cond := .code yX12_isField cX12_isField 1 (some .boolean) :: ([.methodLink RX12 84 yX12_isIn, .static yX12_isIn, .initialized RX12, .code yX12_isIn cX12_isIn 3 (some .boolean)])
def wsX12_from : List Cond := .code yX12_from cX12_from 2 (some .int) :: ([.fieldLink RX12 88 "FieldScribeModel" "fields" "I", .fieldLink RX12 17 "FieldScribeModel" "begins" "[I"] ++ wsX120)
def wsX12_to : List Cond := .code yX12_to cX12_to 2 (some .int) :: ([.fieldLink RX12 91 "FieldScribeModel" "length" "I", .fieldLink RX12 88 "FieldScribeModel" "fields" "I", .fieldLink RX12 20 "FieldScribeModel" "ends" "[I"] ++ wsX120)
def wsX12_cuts : List Cond := .code yX12_cuts cX12_cuts 2 none :: ([.fieldLink RX12 91 "FieldScribeModel" "length" "I", .fieldLink RX12 88 "FieldScribeModel" "fields" "I", .fieldLink RX12 17 "FieldScribeModel" "begins" "[I", .fieldLink RX12 13 "FieldScribeModel" "record" "[I", .fieldLink RX12 7 "FieldScribeModel" "separator" "I", .fieldLink RX12 20 "FieldScribeModel" "ends" "[I"] ++ wsX120)
def wsX12_adds : List Cond := .code yX12_adds cX12_adds 2 none :: ([.fieldLink RX12 94 "FieldScribeModel" "madeLength" "I", .fieldLink RX12 75 "FieldScribeModel" "made" "[I"] ++ wsX120)
def wsX12_becomes : List Cond := .code yX12_becomes cX12_becomes 2 none :: ([.fieldLink RX12 94 "FieldScribeModel" "madeLength" "I", .fieldLink RX12 91 "FieldScribeModel" "length" "I", .fieldLink RX12 13 "FieldScribeModel" "record" "[I", .fieldLink RX12 75 "FieldScribeModel" "made" "[I", .methodLink RX12 97 yX12_cuts, .instanceMethod yX12_cuts, .selects RX12 yX12_cuts yX12_cuts, .initialized RX12, .code yX12_cuts cX12_cuts 2 none, .fieldLink RX12 88 "FieldScribeModel" "fields" "I", .fieldLink RX12 17 "FieldScribeModel" "begins" "[I", .fieldLink RX12 7 "FieldScribeModel" "separator" "I", .fieldLink RX12 20 "FieldScribeModel" "ends" "[I"] ++ wsX120)
def wsX12_addsValue : List Cond := .code yX12_addsValue cX12_addsValue 2 none :: ([.fieldLink RX12 100 "FieldScribeModel" "valueLength" "I", .fieldLink RX12 72 "FieldScribeModel" "value" "[I", .methodLink RX12 103 yX12_adds, .instanceMethod yX12_adds, .selects RX12 yX12_adds yX12_adds, .initialized RX12, .code yX12_adds cX12_adds 2 none, .fieldLink RX12 94 "FieldScribeModel" "madeLength" "I", .fieldLink RX12 75 "FieldScribeModel" "made" "[I"] ++ wsX120)
def wsX12_sets_r1 : List Cond := [Cond.fieldLink RX12 94 "FieldScribeModel" "madeLength" "I", Cond.fieldLink RX12 88 "FieldScribeModel" "fields" "I", Cond.fieldLink RX12 7 "FieldScribeModel" "separator" "I", Cond.fieldLink RX12 13 "FieldScribeModel" "record" "[I", Cond.methodLink RX12 107 yX12_addsValue, Cond.instanceMethod yX12_addsValue, Cond.selects RX12 yX12_addsValue yX12_addsValue, Cond.initialized RX12, Cond.code yX12_addsValue cX12_addsValue 2 none, Cond.fieldLink RX12 100 "FieldScribeModel" "valueLength" "I", Cond.fieldLink RX12 72 "FieldScribeModel" "value" "[I", Cond.methodLink RX12 103 yX12_adds, Cond.instanceMethod yX12_adds, Cond.selects RX12 yX12_adds yX12_adds, Cond.code yX12_adds cX12_adds 2 none, Cond.fieldLink RX12 75 "FieldScribeModel" "made" "[I", Cond.methodLink RX12 110 yX12_from, Cond.instanceMethod yX12_from, Cond.selects RX12 yX12_from yX12_from, Cond.code yX12_from cX12_from 2 (some .int), Cond.fieldLink RX12 17 "FieldScribeModel" "begins" "[I", Cond.methodLink RX12 114 yX12_to, Cond.instanceMethod yX12_to, Cond.selects RX12 yX12_to yX12_to]
def wsX12_sets_r2 : List Cond := [Cond.code yX12_to cX12_to 2 (some .int), Cond.fieldLink RX12 91 "FieldScribeModel" "length" "I", Cond.fieldLink RX12 20 "FieldScribeModel" "ends" "[I", Cond.methodLink RX12 117 yX12_becomes, Cond.instanceMethod yX12_becomes, Cond.selects RX12 yX12_becomes yX12_becomes, Cond.code yX12_becomes cX12_becomes 2 none, Cond.methodLink RX12 97 yX12_cuts, Cond.instanceMethod yX12_cuts, Cond.selects RX12 yX12_cuts yX12_cuts, Cond.code yX12_cuts cX12_cuts 2 none]
def wsX12_sets : List Cond := .code yX12_sets cX12_sets 5 none :: ((wsX12_sets_r1 ++ wsX12_sets_r2) ++ wsX120)
def wsX12_isDigit : List Cond := .code yX12_isDigit cX12_isDigit 1 (some .boolean) :: ([.methodLink RX12 84 yX12_isIn, .static yX12_isIn, .initialized RX12, .code yX12_isIn cX12_isIn 3 (some .boolean)])
def wsX12_numeric : List Cond := .code yX12_numeric cX12_numeric 6 (some .int) :: ([.fieldLink RX12 13 "FieldScribeModel" "record" "[I", .methodLink RX12 110 yX12_from, .instanceMethod yX12_from, .selects RX12 yX12_from yX12_from, .initialized RX12, .code yX12_from cX12_from 2 (some .int), .fieldLink RX12 88 "FieldScribeModel" "fields" "I", .fieldLink RX12 17 "FieldScribeModel" "begins" "[I", .methodLink RX12 114 yX12_to, .instanceMethod yX12_to, .selects RX12 yX12_to yX12_to, .code yX12_to cX12_to 2 (some .int), .fieldLink RX12 91 "FieldScribeModel" "length" "I", .fieldLink RX12 20 "FieldScribeModel" "ends" "[I", .methodLink RX12 120 yX12_isDigit, .static yX12_isDigit, .code yX12_isDigit cX12_isDigit 1 (some .boolean), .methodLink RX12 84 yX12_isIn, .static yX12_isIn, .code yX12_isIn cX12_isIn 3 (some .boolean)] ++ wsX120)
def wsX12_isNumeric : List Cond := .code yX12_isNumeric cX12_isNumeric 2 (some .boolean) :: ([.methodLink RX12 124 yX12_numeric, .instanceMethod yX12_numeric, .selects RX12 yX12_numeric yX12_numeric, .initialized RX12, .code yX12_numeric cX12_numeric 6 (some .int), .fieldLink RX12 13 "FieldScribeModel" "record" "[I", .methodLink RX12 110 yX12_from, .instanceMethod yX12_from, .selects RX12 yX12_from yX12_from, .code yX12_from cX12_from 2 (some .int), .fieldLink RX12 88 "FieldScribeModel" "fields" "I", .fieldLink RX12 17 "FieldScribeModel" "begins" "[I", .methodLink RX12 114 yX12_to, .instanceMethod yX12_to, .selects RX12 yX12_to yX12_to, .code yX12_to cX12_to 2 (some .int), .fieldLink RX12 91 "FieldScribeModel" "length" "I", .fieldLink RX12 20 "FieldScribeModel" "ends" "[I", .methodLink RX12 120 yX12_isDigit, .static yX12_isDigit, .code yX12_isDigit cX12_isDigit 1 (some .boolean), .methodLink RX12 84 yX12_isIn, .static yX12_isIn, .code yX12_isIn cX12_isIn 3 (some .boolean)] ++ wsX120)
def wsX12_numberOf : List Cond := .code yX12_numberOf cX12_numberOf 6 (some .int) :: ([.fieldLink RX12 13 "FieldScribeModel" "record" "[I", .methodLink RX12 110 yX12_from, .instanceMethod yX12_from, .selects RX12 yX12_from yX12_from, .initialized RX12, .code yX12_from cX12_from 2 (some .int), .fieldLink RX12 88 "FieldScribeModel" "fields" "I", .fieldLink RX12 17 "FieldScribeModel" "begins" "[I", .methodLink RX12 114 yX12_to, .instanceMethod yX12_to, .selects RX12 yX12_to yX12_to, .code yX12_to cX12_to 2 (some .int), .fieldLink RX12 91 "FieldScribeModel" "length" "I", .fieldLink RX12 20 "FieldScribeModel" "ends" "[I", .methodLink RX12 124 yX12_numeric, .instanceMethod yX12_numeric, .selects RX12 yX12_numeric yX12_numeric, .code yX12_numeric cX12_numeric 6 (some .int), .methodLink RX12 120 yX12_isDigit, .static yX12_isDigit, .code yX12_isDigit cX12_isDigit 1 (some .boolean), .methodLink RX12 84 yX12_isIn, .static yX12_isIn, .code yX12_isIn cX12_isIn 3 (some .boolean)] ++ wsX120)
def wsX12_rank : List Cond := .code yX12_rank cX12_rank 1 (some .int) :: ([])
def wsX12_isLess_r1 : List Cond := [Cond.fieldLink RX12 13 "FieldScribeModel" "record" "[I", Cond.methodLink RX12 127 yX12_isNumeric, Cond.instanceMethod yX12_isNumeric, Cond.selects RX12 yX12_isNumeric yX12_isNumeric, Cond.initialized RX12, Cond.code yX12_isNumeric cX12_isNumeric 2 (some .boolean), Cond.methodLink RX12 124 yX12_numeric, Cond.instanceMethod yX12_numeric, Cond.selects RX12 yX12_numeric yX12_numeric, Cond.code yX12_numeric cX12_numeric 6 (some .int), Cond.methodLink RX12 110 yX12_from, Cond.instanceMethod yX12_from, Cond.selects RX12 yX12_from yX12_from, Cond.code yX12_from cX12_from 2 (some .int), Cond.fieldLink RX12 88 "FieldScribeModel" "fields" "I", Cond.fieldLink RX12 17 "FieldScribeModel" "begins" "[I", Cond.methodLink RX12 114 yX12_to, Cond.instanceMethod yX12_to, Cond.selects RX12 yX12_to yX12_to, Cond.code yX12_to cX12_to 2 (some .int), Cond.fieldLink RX12 91 "FieldScribeModel" "length" "I", Cond.fieldLink RX12 20 "FieldScribeModel" "ends" "[I", Cond.methodLink RX12 120 yX12_isDigit, Cond.static yX12_isDigit]
def wsX12_isLess_r2 : List Cond := [Cond.code yX12_isDigit cX12_isDigit 1 (some .boolean), Cond.methodLink RX12 84 yX12_isIn, Cond.static yX12_isIn, Cond.code yX12_isIn cX12_isIn 3 (some .boolean), Cond.methodLink RX12 130 yX12_numberOf, Cond.instanceMethod yX12_numberOf, Cond.selects RX12 yX12_numberOf yX12_numberOf, Cond.code yX12_numberOf cX12_numberOf 6 (some .int), Cond.methodLink RX12 133 yX12_rank, Cond.static yX12_rank, Cond.code yX12_rank cX12_rank 1 (some .int)]
def wsX12_isLess : List Cond := .code yX12_isLess cX12_isLess 5 (some .boolean) :: ((wsX12_isLess_r1 ++ wsX12_isLess_r2) ++ wsX120)
def wsX12_isSame_r1 : List Cond := [Cond.methodLink RX12 127 yX12_isNumeric, Cond.instanceMethod yX12_isNumeric, Cond.selects RX12 yX12_isNumeric yX12_isNumeric, Cond.initialized RX12, Cond.code yX12_isNumeric cX12_isNumeric 2 (some .boolean), Cond.methodLink RX12 124 yX12_numeric, Cond.instanceMethod yX12_numeric, Cond.selects RX12 yX12_numeric yX12_numeric, Cond.code yX12_numeric cX12_numeric 6 (some .int), Cond.fieldLink RX12 13 "FieldScribeModel" "record" "[I", Cond.methodLink RX12 110 yX12_from, Cond.instanceMethod yX12_from, Cond.selects RX12 yX12_from yX12_from, Cond.code yX12_from cX12_from 2 (some .int), Cond.fieldLink RX12 88 "FieldScribeModel" "fields" "I", Cond.fieldLink RX12 17 "FieldScribeModel" "begins" "[I", Cond.methodLink RX12 114 yX12_to, Cond.instanceMethod yX12_to, Cond.selects RX12 yX12_to yX12_to, Cond.code yX12_to cX12_to 2 (some .int), Cond.fieldLink RX12 91 "FieldScribeModel" "length" "I", Cond.fieldLink RX12 20 "FieldScribeModel" "ends" "[I", Cond.methodLink RX12 120 yX12_isDigit, Cond.static yX12_isDigit]
def wsX12_isSame_r2 : List Cond := [Cond.code yX12_isDigit cX12_isDigit 1 (some .boolean), Cond.methodLink RX12 84 yX12_isIn, Cond.static yX12_isIn, Cond.code yX12_isIn cX12_isIn 3 (some .boolean), Cond.methodLink RX12 130 yX12_numberOf, Cond.instanceMethod yX12_numberOf, Cond.selects RX12 yX12_numberOf yX12_numberOf, Cond.code yX12_numberOf cX12_numberOf 6 (some .int)]
def wsX12_isSame : List Cond := .code yX12_isSame cX12_isSame 3 (some .boolean) :: ((wsX12_isSame_r1 ++ wsX12_isSame_r2) ++ wsX120)
def wsX12_writes : List Cond := .code yX12_writes cX12_writes 6 none :: ([.fieldLink RX12 78 "FieldScribeModel" "digits" "[I", .constantLong RX12 136 (10), .fieldLink RX12 100 "FieldScribeModel" "valueLength" "I", .fieldLink RX12 72 "FieldScribeModel" "value" "[I"] ++ wsX120)
def wsX12_isOperand : List Cond := .code yX12_isOperand cX12_isOperand 1 (some .boolean) :: ([.methodLink RX12 84 yX12_isIn, .static yX12_isIn, .initialized RX12, .code yX12_isIn cX12_isIn 3 (some .boolean)])
def wsX12_isFieldOf : List Cond := .code yX12_isFieldOf cX12_isFieldOf 1 (some .boolean) :: ([.methodLink RX12 84 yX12_isIn, .static yX12_isIn, .initialized RX12, .code yX12_isIn cX12_isIn 3 (some .boolean)])
def wsX12_numberOfOperand_r1 : List Cond := [Cond.fieldLink RX12 88 "FieldScribeModel" "fields" "I", Cond.fieldLink RX12 141 "FieldScribeModel" "number" "I", Cond.methodLink RX12 138 yX12_isFieldOf, Cond.static yX12_isFieldOf, Cond.initialized RX12, Cond.code yX12_isFieldOf cX12_isFieldOf 1 (some .boolean), Cond.methodLink RX12 84 yX12_isIn, Cond.static yX12_isIn, Cond.code yX12_isIn cX12_isIn 3 (some .boolean), Cond.methodLink RX12 130 yX12_numberOf, Cond.instanceMethod yX12_numberOf, Cond.selects RX12 yX12_numberOf yX12_numberOf, Cond.code yX12_numberOf cX12_numberOf 6 (some .int), Cond.fieldLink RX12 13 "FieldScribeModel" "record" "[I", Cond.methodLink RX12 110 yX12_from, Cond.instanceMethod yX12_from, Cond.selects RX12 yX12_from yX12_from, Cond.code yX12_from cX12_from 2 (some .int), Cond.fieldLink RX12 17 "FieldScribeModel" "begins" "[I", Cond.methodLink RX12 114 yX12_to, Cond.instanceMethod yX12_to, Cond.selects RX12 yX12_to yX12_to, Cond.code yX12_to cX12_to 2 (some .int), Cond.fieldLink RX12 91 "FieldScribeModel" "length" "I"]
def wsX12_numberOfOperand_r2 : List Cond := [Cond.fieldLink RX12 20 "FieldScribeModel" "ends" "[I", Cond.methodLink RX12 124 yX12_numeric, Cond.instanceMethod yX12_numeric, Cond.selects RX12 yX12_numeric yX12_numeric, Cond.code yX12_numeric cX12_numeric 6 (some .int), Cond.methodLink RX12 120 yX12_isDigit, Cond.static yX12_isDigit, Cond.code yX12_isDigit cX12_isDigit 1 (some .boolean)]
def wsX12_numberOfOperand : List Cond := .code yX12_numberOfOperand cX12_numberOfOperand 2 (some .int) :: ((wsX12_numberOfOperand_r1 ++ wsX12_numberOfOperand_r2) ++ wsX120)
def wsX12_addsOperand_r1 : List Cond := [Cond.fieldLink RX12 13 "FieldScribeModel" "record" "[I", Cond.methodLink RX12 138 yX12_isFieldOf, Cond.static yX12_isFieldOf, Cond.initialized RX12, Cond.code yX12_isFieldOf cX12_isFieldOf 1 (some .boolean), Cond.methodLink RX12 84 yX12_isIn, Cond.static yX12_isIn, Cond.code yX12_isIn cX12_isIn 3 (some .boolean), Cond.methodLink RX12 110 yX12_from, Cond.instanceMethod yX12_from, Cond.selects RX12 yX12_from yX12_from, Cond.code yX12_from cX12_from 2 (some .int), Cond.fieldLink RX12 88 "FieldScribeModel" "fields" "I", Cond.fieldLink RX12 17 "FieldScribeModel" "begins" "[I", Cond.methodLink RX12 114 yX12_to, Cond.instanceMethod yX12_to, Cond.selects RX12 yX12_to yX12_to, Cond.code yX12_to cX12_to 2 (some .int), Cond.fieldLink RX12 91 "FieldScribeModel" "length" "I", Cond.fieldLink RX12 20 "FieldScribeModel" "ends" "[I", Cond.methodLink RX12 103 yX12_adds, Cond.instanceMethod yX12_adds, Cond.selects RX12 yX12_adds yX12_adds, Cond.code yX12_adds cX12_adds 2 none]
def wsX12_addsOperand_r2 : List Cond := [Cond.fieldLink RX12 94 "FieldScribeModel" "madeLength" "I", Cond.fieldLink RX12 75 "FieldScribeModel" "made" "[I", Cond.methodLink RX12 144 yX12_numberOfOperand, Cond.instanceMethod yX12_numberOfOperand, Cond.selects RX12 yX12_numberOfOperand yX12_numberOfOperand, Cond.code yX12_numberOfOperand cX12_numberOfOperand 2 (some .int), Cond.fieldLink RX12 141 "FieldScribeModel" "number" "I", Cond.methodLink RX12 130 yX12_numberOf, Cond.instanceMethod yX12_numberOf, Cond.selects RX12 yX12_numberOf yX12_numberOf, Cond.code yX12_numberOf cX12_numberOf 6 (some .int), Cond.methodLink RX12 124 yX12_numeric, Cond.instanceMethod yX12_numeric, Cond.selects RX12 yX12_numeric yX12_numeric, Cond.code yX12_numeric cX12_numeric 6 (some .int), Cond.methodLink RX12 120 yX12_isDigit, Cond.static yX12_isDigit, Cond.code yX12_isDigit cX12_isDigit 1 (some .boolean), Cond.methodLink RX12 147 yX12_writes, Cond.instanceMethod yX12_writes, Cond.selects RX12 yX12_writes yX12_writes, Cond.code yX12_writes cX12_writes 6 none, Cond.fieldLink RX12 78 "FieldScribeModel" "digits" "[I", Cond.constantLong RX12 136 (10)]
def wsX12_addsOperand_r3 : List Cond := [Cond.fieldLink RX12 100 "FieldScribeModel" "valueLength" "I", Cond.fieldLink RX12 72 "FieldScribeModel" "value" "[I", Cond.methodLink RX12 107 yX12_addsValue, Cond.instanceMethod yX12_addsValue, Cond.selects RX12 yX12_addsValue yX12_addsValue, Cond.code yX12_addsValue cX12_addsValue 2 none]
def wsX12_addsOperand : List Cond := .code yX12_addsOperand cX12_addsOperand 3 none :: ((wsX12_addsOperand_r1 ++ (wsX12_addsOperand_r2 ++ wsX12_addsOperand_r3)) ++ wsX120)
def wsX12_numberOfValue : List Cond := .code yX12_numberOfValue cX12_numberOfValue 4 (some .int) :: ([.fieldLink RX12 100 "FieldScribeModel" "valueLength" "I", .fieldLink RX12 72 "FieldScribeModel" "value" "[I", .methodLink RX12 120 yX12_isDigit, .static yX12_isDigit, .initialized RX12, .code yX12_isDigit cX12_isDigit 1 (some .boolean), .methodLink RX12 84 yX12_isIn, .static yX12_isIn, .code yX12_isIn cX12_isIn 3 (some .boolean)] ++ wsX120)
def wsX12_fits : List Cond := .code yX12_fits cX12_fits 4 (some .int) :: ([.constantLong RX12 161 (-2147483648), .constantLong RX12 163 (2147483647), .fieldLink RX12 165 "FieldScribeModel" "faults" "I"] ++ wsX120)
def wsX12_finds_r1 : List Cond := [Cond.fieldLink RX12 48 "FieldScribeModel" "operation" "[I", Cond.fieldLink RX12 94 "FieldScribeModel" "madeLength" "I", Cond.fieldLink RX12 51 "FieldScribeModel" "x" "[I", Cond.fieldLink RX12 54 "FieldScribeModel" "y" "[I", Cond.fieldLink RX12 100 "FieldScribeModel" "valueLength" "I", Cond.fieldLink RX12 72 "FieldScribeModel" "value" "[I", Cond.fieldLink RX12 75 "FieldScribeModel" "made" "[I", Cond.methodLink RX12 150 yX12_addsOperand, Cond.instanceMethod yX12_addsOperand, Cond.selects RX12 yX12_addsOperand yX12_addsOperand, Cond.initialized RX12, Cond.code yX12_addsOperand cX12_addsOperand 3 none, Cond.fieldLink RX12 13 "FieldScribeModel" "record" "[I", Cond.methodLink RX12 138 yX12_isFieldOf, Cond.static yX12_isFieldOf, Cond.code yX12_isFieldOf cX12_isFieldOf 1 (some .boolean), Cond.methodLink RX12 84 yX12_isIn, Cond.static yX12_isIn, Cond.code yX12_isIn cX12_isIn 3 (some .boolean), Cond.methodLink RX12 110 yX12_from, Cond.instanceMethod yX12_from, Cond.selects RX12 yX12_from yX12_from, Cond.code yX12_from cX12_from 2 (some .int), Cond.fieldLink RX12 88 "FieldScribeModel" "fields" "I"]
def wsX12_finds_r2 : List Cond := [Cond.fieldLink RX12 17 "FieldScribeModel" "begins" "[I", Cond.methodLink RX12 114 yX12_to, Cond.instanceMethod yX12_to, Cond.selects RX12 yX12_to yX12_to, Cond.code yX12_to cX12_to 2 (some .int), Cond.fieldLink RX12 91 "FieldScribeModel" "length" "I", Cond.fieldLink RX12 20 "FieldScribeModel" "ends" "[I", Cond.methodLink RX12 103 yX12_adds, Cond.instanceMethod yX12_adds, Cond.selects RX12 yX12_adds yX12_adds, Cond.code yX12_adds cX12_adds 2 none, Cond.methodLink RX12 144 yX12_numberOfOperand, Cond.instanceMethod yX12_numberOfOperand, Cond.selects RX12 yX12_numberOfOperand yX12_numberOfOperand, Cond.code yX12_numberOfOperand cX12_numberOfOperand 2 (some .int), Cond.fieldLink RX12 141 "FieldScribeModel" "number" "I", Cond.methodLink RX12 130 yX12_numberOf, Cond.instanceMethod yX12_numberOf, Cond.selects RX12 yX12_numberOf yX12_numberOf, Cond.code yX12_numberOf cX12_numberOf 6 (some .int), Cond.methodLink RX12 124 yX12_numeric, Cond.instanceMethod yX12_numeric, Cond.selects RX12 yX12_numeric yX12_numeric, Cond.code yX12_numeric cX12_numeric 6 (some .int)]
def wsX12_finds_r3 : List Cond := [Cond.methodLink RX12 120 yX12_isDigit, Cond.static yX12_isDigit, Cond.code yX12_isDigit cX12_isDigit 1 (some .boolean), Cond.methodLink RX12 147 yX12_writes, Cond.instanceMethod yX12_writes, Cond.selects RX12 yX12_writes yX12_writes, Cond.code yX12_writes cX12_writes 6 none, Cond.fieldLink RX12 78 "FieldScribeModel" "digits" "[I", Cond.constantLong RX12 136 (10), Cond.methodLink RX12 107 yX12_addsValue, Cond.instanceMethod yX12_addsValue, Cond.selects RX12 yX12_addsValue yX12_addsValue, Cond.code yX12_addsValue cX12_addsValue 2 none, Cond.methodLink RX12 153 yX12_numberOfValue, Cond.instanceMethod yX12_numberOfValue, Cond.selects RX12 yX12_numberOfValue yX12_numberOfValue, Cond.code yX12_numberOfValue cX12_numberOfValue 4 (some .int), Cond.methodLink RX12 157 yX12_fits, Cond.instanceMethod yX12_fits, Cond.selects RX12 yX12_fits yX12_fits, Cond.code yX12_fits cX12_fits 4 (some .int), Cond.constantLong RX12 161 (-2147483648), Cond.constantLong RX12 163 (2147483647), Cond.fieldLink RX12 165 "FieldScribeModel" "faults" "I"]
def wsX12_finds : List Cond := .code yX12_finds cX12_finds 9 (some .int) :: ((wsX12_finds_r1 ++ (wsX12_finds_r2 ++ wsX12_finds_r3)) ++ wsX120)
def wsX12_rule : List Cond := .code yX12_rule cX12_rule 5 (some .int) :: ([.fieldLink RX12 168 "FieldScribeModel" "rules" "I", .fieldLink RX12 26 "FieldScribeModel" "pattern" "[I", .fieldLink RX12 29 "FieldScribeModel" "first" "[I", .fieldLink RX12 32 "FieldScribeModel" "second" "[I", .methodLink RX12 84 yX12_isIn, .static yX12_isIn, .initialized RX12, .code yX12_isIn cX12_isIn 3 (some .boolean), .methodLink RX12 171 yX12_fails, .instanceMethod yX12_fails, .selects RX12 yX12_fails yX12_fails, .code yX12_fails cX12_fails 2 (some .boolean), .fieldLink RX12 81 "FieldScribeModel" "thrown" "I"] ++ wsX120)
def wsX12_act : List Cond := .code yX12_act cX12_act 10 (some .int) :: ([.fieldLink RX12 168 "FieldScribeModel" "rules" "I", .fieldLink RX12 39 "FieldScribeModel" "actions" "[I", .fieldLink RX12 42 "FieldScribeModel" "kind" "[I", .fieldLink RX12 45 "FieldScribeModel" "field" "[I", .fieldLink RX12 48 "FieldScribeModel" "operation" "[I", .fieldLink RX12 51 "FieldScribeModel" "x" "[I", .fieldLink RX12 54 "FieldScribeModel" "y" "[I", .methodLink RX12 84 yX12_isIn, .static yX12_isIn, .initialized RX12, .code yX12_isIn cX12_isIn 3 (some .boolean), .methodLink RX12 174 yX12_isField, .static yX12_isField, .code yX12_isField cX12_isField 1 (some .boolean), .methodLink RX12 177 yX12_isOperand, .static yX12_isOperand, .code yX12_isOperand cX12_isOperand 1 (some .boolean), .methodLink RX12 171 yX12_fails, .instanceMethod yX12_fails, .selects RX12 yX12_fails yX12_fails, .code yX12_fails cX12_fails 2 (some .boolean), .fieldLink RX12 81 "FieldScribeModel" "thrown" "I"] ++ wsX120)
def wsX12_useStack : List Cond := .code yX12_useStack cX12_useStack 2 none :: ([.fieldLink RX12 81 "FieldScribeModel" "thrown" "I"] ++ wsX120)
def wsX12_setSeparator : List Cond := .code yX12_setSeparator cX12_setSeparator 2 (some .int) :: ([.fieldLink RX12 7 "FieldScribeModel" "separator" "I", .fieldLink RX12 88 "FieldScribeModel" "fields" "I", .methodLink RX12 84 yX12_isIn, .static yX12_isIn, .initialized RX12, .code yX12_isIn cX12_isIn 3 (some .boolean), .methodLink RX12 171 yX12_fails, .instanceMethod yX12_fails, .selects RX12 yX12_fails yX12_fails, .code yX12_fails cX12_fails 2 (some .boolean), .fieldLink RX12 81 "FieldScribeModel" "thrown" "I", .methodLink RX12 180 yX12_letter, .static yX12_letter, .code yX12_letter cX12_letter 1 (some .int), .methodLink RX12 97 yX12_cuts, .instanceMethod yX12_cuts, .selects RX12 yX12_cuts yX12_cuts, .code yX12_cuts cX12_cuts 2 none, .fieldLink RX12 91 "FieldScribeModel" "length" "I", .fieldLink RX12 17 "FieldScribeModel" "begins" "[I", .fieldLink RX12 13 "FieldScribeModel" "record" "[I", .fieldLink RX12 20 "FieldScribeModel" "ends" "[I"] ++ wsX120)
def wsX12_type : List Cond := .code yX12_type cX12_type 2 (some .int) :: ([.fieldLink RX12 183 "FieldScribeModel" "many" "I", .fieldLink RX12 23 "FieldScribeModel" "typed" "[I", .methodLink RX12 84 yX12_isIn, .static yX12_isIn, .initialized RX12, .code yX12_isIn cX12_isIn 3 (some .boolean), .methodLink RX12 171 yX12_fails, .instanceMethod yX12_fails, .selects RX12 yX12_fails yX12_fails, .code yX12_fails cX12_fails 2 (some .boolean), .fieldLink RX12 81 "FieldScribeModel" "thrown" "I", .methodLink RX12 180 yX12_letter, .static yX12_letter, .code yX12_letter cX12_letter 1 (some .int)] ++ wsX120)
def wsX12_isTrue_r1 : List Cond := [Cond.fieldLink RX12 29 "FieldScribeModel" "first" "[I", Cond.fieldLink RX12 32 "FieldScribeModel" "second" "[I", Cond.fieldLink RX12 26 "FieldScribeModel" "pattern" "[I", Cond.fieldLink RX12 35 "FieldScribeModel" "isOn" "[Z", Cond.methodLink RX12 186 yX12_isSame, Cond.instanceMethod yX12_isSame, Cond.selects RX12 yX12_isSame yX12_isSame, Cond.initialized RX12, Cond.code yX12_isSame cX12_isSame 3 (some .boolean), Cond.methodLink RX12 127 yX12_isNumeric, Cond.instanceMethod yX12_isNumeric, Cond.selects RX12 yX12_isNumeric yX12_isNumeric, Cond.code yX12_isNumeric cX12_isNumeric 2 (some .boolean), Cond.methodLink RX12 124 yX12_numeric, Cond.instanceMethod yX12_numeric, Cond.selects RX12 yX12_numeric yX12_numeric, Cond.code yX12_numeric cX12_numeric 6 (some .int), Cond.fieldLink RX12 13 "FieldScribeModel" "record" "[I", Cond.methodLink RX12 110 yX12_from, Cond.instanceMethod yX12_from, Cond.selects RX12 yX12_from yX12_from, Cond.code yX12_from cX12_from 2 (some .int), Cond.fieldLink RX12 88 "FieldScribeModel" "fields" "I", Cond.fieldLink RX12 17 "FieldScribeModel" "begins" "[I"]
def wsX12_isTrue_r2 : List Cond := [Cond.methodLink RX12 114 yX12_to, Cond.instanceMethod yX12_to, Cond.selects RX12 yX12_to yX12_to, Cond.code yX12_to cX12_to 2 (some .int), Cond.fieldLink RX12 91 "FieldScribeModel" "length" "I", Cond.fieldLink RX12 20 "FieldScribeModel" "ends" "[I", Cond.methodLink RX12 120 yX12_isDigit, Cond.static yX12_isDigit, Cond.code yX12_isDigit cX12_isDigit 1 (some .boolean), Cond.methodLink RX12 84 yX12_isIn, Cond.static yX12_isIn, Cond.code yX12_isIn cX12_isIn 3 (some .boolean), Cond.methodLink RX12 130 yX12_numberOf, Cond.instanceMethod yX12_numberOf, Cond.selects RX12 yX12_numberOf yX12_numberOf, Cond.code yX12_numberOf cX12_numberOf 6 (some .int), Cond.methodLink RX12 190 yX12_isLess, Cond.instanceMethod yX12_isLess, Cond.selects RX12 yX12_isLess yX12_isLess, Cond.code yX12_isLess cX12_isLess 5 (some .boolean), Cond.methodLink RX12 133 yX12_rank, Cond.static yX12_rank, Cond.code yX12_rank cX12_rank 1 (some .int)]
def wsX12_isTrue : List Cond := .code yX12_isTrue cX12_isTrue 5 (some .boolean) :: ((wsX12_isTrue_r1 ++ wsX12_isTrue_r2) ++ wsX120)
def wsX12_rowOf : List Cond := .code yX12_rowOf cX12_rowOf 6 (some .int) :: ([.fieldLink RX12 193 "FieldScribeModel" "rows" "I", .fieldLink RX12 60 "FieldScribeModel" "keyLength" "[I", .fieldLink RX12 57 "FieldScribeModel" "keys" "[I", .fieldLink RX12 13 "FieldScribeModel" "record" "[I", .methodLink RX12 114 yX12_to, .instanceMethod yX12_to, .selects RX12 yX12_to yX12_to, .initialized RX12, .code yX12_to cX12_to 2 (some .int), .fieldLink RX12 91 "FieldScribeModel" "length" "I", .fieldLink RX12 88 "FieldScribeModel" "fields" "I", .fieldLink RX12 20 "FieldScribeModel" "ends" "[I", .methodLink RX12 110 yX12_from, .instanceMethod yX12_from, .selects RX12 yX12_from yX12_from, .code yX12_from cX12_from 2 (some .int), .fieldLink RX12 17 "FieldScribeModel" "begins" "[I"] ++ wsX120)
def wsX12_grows_r1 : List Cond := [Cond.fieldLink RX12 193 "FieldScribeModel" "rows" "I", Cond.fieldLink RX12 60 "FieldScribeModel" "keyLength" "[I", Cond.fieldLink RX12 57 "FieldScribeModel" "keys" "[I", Cond.fieldLink RX12 13 "FieldScribeModel" "record" "[I", Cond.fieldLink RX12 63 "FieldScribeModel" "sums" "[I", Cond.methodLink RX12 196 yX12_rowOf, Cond.instanceMethod yX12_rowOf, Cond.selects RX12 yX12_rowOf yX12_rowOf, Cond.initialized RX12, Cond.code yX12_rowOf cX12_rowOf 6 (some .int), Cond.methodLink RX12 114 yX12_to, Cond.instanceMethod yX12_to, Cond.selects RX12 yX12_to yX12_to, Cond.code yX12_to cX12_to 2 (some .int), Cond.fieldLink RX12 91 "FieldScribeModel" "length" "I", Cond.fieldLink RX12 88 "FieldScribeModel" "fields" "I", Cond.fieldLink RX12 20 "FieldScribeModel" "ends" "[I", Cond.methodLink RX12 110 yX12_from, Cond.instanceMethod yX12_from, Cond.selects RX12 yX12_from yX12_from, Cond.code yX12_from cX12_from 2 (some .int), Cond.fieldLink RX12 17 "FieldScribeModel" "begins" "[I", Cond.methodLink RX12 157 yX12_fits, Cond.instanceMethod yX12_fits]
def wsX12_grows_r2 : List Cond := [Cond.selects RX12 yX12_fits yX12_fits, Cond.code yX12_fits cX12_fits 4 (some .int), Cond.constantLong RX12 161 (-2147483648), Cond.constantLong RX12 163 (2147483647), Cond.fieldLink RX12 165 "FieldScribeModel" "faults" "I"]
def wsX12_grows : List Cond := .code yX12_grows cX12_grows 5 none :: ((wsX12_grows_r1 ++ wsX12_grows_r2) ++ wsX120)
def wsX12_drops : List Cond := .code yX12_drops cX12_drops 5 none :: ([.fieldLink RX12 193 "FieldScribeModel" "rows" "I", .fieldLink RX12 63 "FieldScribeModel" "sums" "[I", .fieldLink RX12 60 "FieldScribeModel" "keyLength" "[I", .fieldLink RX12 57 "FieldScribeModel" "keys" "[I", .methodLink RX12 196 yX12_rowOf, .instanceMethod yX12_rowOf, .selects RX12 yX12_rowOf yX12_rowOf, .initialized RX12, .code yX12_rowOf cX12_rowOf 6 (some .int), .fieldLink RX12 13 "FieldScribeModel" "record" "[I", .methodLink RX12 114 yX12_to, .instanceMethod yX12_to, .selects RX12 yX12_to yX12_to, .code yX12_to cX12_to 2 (some .int), .fieldLink RX12 91 "FieldScribeModel" "length" "I", .fieldLink RX12 88 "FieldScribeModel" "fields" "I", .fieldLink RX12 20 "FieldScribeModel" "ends" "[I", .methodLink RX12 110 yX12_from, .instanceMethod yX12_from, .selects RX12 yX12_from yX12_from, .code yX12_from cX12_from 2 (some .int), .fieldLink RX12 17 "FieldScribeModel" "begins" "[I"] ++ wsX120)
def wsX12_prints : List Cond := .code yX12_prints cX12_prints 3 none :: ([.fieldLink RX12 199 "FieldScribeModel" "lines" "I", .fieldLink RX12 69 "FieldScribeModel" "printedLength" "[I", .fieldLink RX12 66 "FieldScribeModel" "printed" "[I", .fieldLink RX12 100 "FieldScribeModel" "valueLength" "I", .fieldLink RX12 72 "FieldScribeModel" "value" "[I"] ++ wsX120)
def wsX12_does_r1 : List Cond := [Cond.fieldLink RX12 42 "FieldScribeModel" "kind" "[I", Cond.fieldLink RX12 45 "FieldScribeModel" "field" "[I", Cond.methodLink RX12 202 yX12_finds, Cond.instanceMethod yX12_finds, Cond.selects RX12 yX12_finds yX12_finds, Cond.initialized RX12, Cond.code yX12_finds cX12_finds 9 (some .int), Cond.fieldLink RX12 48 "FieldScribeModel" "operation" "[I", Cond.fieldLink RX12 94 "FieldScribeModel" "madeLength" "I", Cond.fieldLink RX12 51 "FieldScribeModel" "x" "[I", Cond.fieldLink RX12 54 "FieldScribeModel" "y" "[I", Cond.fieldLink RX12 100 "FieldScribeModel" "valueLength" "I", Cond.fieldLink RX12 72 "FieldScribeModel" "value" "[I", Cond.fieldLink RX12 75 "FieldScribeModel" "made" "[I", Cond.methodLink RX12 150 yX12_addsOperand, Cond.instanceMethod yX12_addsOperand, Cond.selects RX12 yX12_addsOperand yX12_addsOperand, Cond.code yX12_addsOperand cX12_addsOperand 3 none, Cond.fieldLink RX12 13 "FieldScribeModel" "record" "[I", Cond.methodLink RX12 138 yX12_isFieldOf, Cond.static yX12_isFieldOf, Cond.code yX12_isFieldOf cX12_isFieldOf 1 (some .boolean), Cond.methodLink RX12 84 yX12_isIn, Cond.static yX12_isIn]
def wsX12_does_r2 : List Cond := [Cond.code yX12_isIn cX12_isIn 3 (some .boolean), Cond.methodLink RX12 110 yX12_from, Cond.instanceMethod yX12_from, Cond.selects RX12 yX12_from yX12_from, Cond.code yX12_from cX12_from 2 (some .int), Cond.fieldLink RX12 88 "FieldScribeModel" "fields" "I", Cond.fieldLink RX12 17 "FieldScribeModel" "begins" "[I", Cond.methodLink RX12 114 yX12_to, Cond.instanceMethod yX12_to, Cond.selects RX12 yX12_to yX12_to, Cond.code yX12_to cX12_to 2 (some .int), Cond.fieldLink RX12 91 "FieldScribeModel" "length" "I", Cond.fieldLink RX12 20 "FieldScribeModel" "ends" "[I", Cond.methodLink RX12 103 yX12_adds, Cond.instanceMethod yX12_adds, Cond.selects RX12 yX12_adds yX12_adds, Cond.code yX12_adds cX12_adds 2 none, Cond.methodLink RX12 144 yX12_numberOfOperand, Cond.instanceMethod yX12_numberOfOperand, Cond.selects RX12 yX12_numberOfOperand yX12_numberOfOperand, Cond.code yX12_numberOfOperand cX12_numberOfOperand 2 (some .int), Cond.fieldLink RX12 141 "FieldScribeModel" "number" "I", Cond.methodLink RX12 130 yX12_numberOf, Cond.instanceMethod yX12_numberOf]
def wsX12_does_r3 : List Cond := [Cond.selects RX12 yX12_numberOf yX12_numberOf, Cond.code yX12_numberOf cX12_numberOf 6 (some .int), Cond.methodLink RX12 124 yX12_numeric, Cond.instanceMethod yX12_numeric, Cond.selects RX12 yX12_numeric yX12_numeric, Cond.code yX12_numeric cX12_numeric 6 (some .int), Cond.methodLink RX12 120 yX12_isDigit, Cond.static yX12_isDigit, Cond.code yX12_isDigit cX12_isDigit 1 (some .boolean), Cond.methodLink RX12 147 yX12_writes, Cond.instanceMethod yX12_writes, Cond.selects RX12 yX12_writes yX12_writes, Cond.code yX12_writes cX12_writes 6 none, Cond.fieldLink RX12 78 "FieldScribeModel" "digits" "[I", Cond.constantLong RX12 136 (10), Cond.methodLink RX12 107 yX12_addsValue, Cond.instanceMethod yX12_addsValue, Cond.selects RX12 yX12_addsValue yX12_addsValue, Cond.code yX12_addsValue cX12_addsValue 2 none, Cond.methodLink RX12 153 yX12_numberOfValue, Cond.instanceMethod yX12_numberOfValue, Cond.selects RX12 yX12_numberOfValue yX12_numberOfValue, Cond.code yX12_numberOfValue cX12_numberOfValue 4 (some .int), Cond.methodLink RX12 157 yX12_fits]
def wsX12_does_r4 : List Cond := [Cond.instanceMethod yX12_fits, Cond.selects RX12 yX12_fits yX12_fits, Cond.code yX12_fits cX12_fits 4 (some .int), Cond.constantLong RX12 161 (-2147483648), Cond.constantLong RX12 163 (2147483647), Cond.fieldLink RX12 165 "FieldScribeModel" "faults" "I", Cond.methodLink RX12 205 yX12_sets, Cond.instanceMethod yX12_sets, Cond.selects RX12 yX12_sets yX12_sets, Cond.code yX12_sets cX12_sets 5 none, Cond.fieldLink RX12 7 "FieldScribeModel" "separator" "I", Cond.methodLink RX12 117 yX12_becomes, Cond.instanceMethod yX12_becomes, Cond.selects RX12 yX12_becomes yX12_becomes, Cond.code yX12_becomes cX12_becomes 2 none, Cond.methodLink RX12 97 yX12_cuts, Cond.instanceMethod yX12_cuts, Cond.selects RX12 yX12_cuts yX12_cuts, Cond.code yX12_cuts cX12_cuts 2 none, Cond.methodLink RX12 208 yX12_grows, Cond.instanceMethod yX12_grows, Cond.selects RX12 yX12_grows yX12_grows, Cond.code yX12_grows cX12_grows 5 none, Cond.fieldLink RX12 193 "FieldScribeModel" "rows" "I"]
def wsX12_does_r5 : List Cond := [Cond.fieldLink RX12 60 "FieldScribeModel" "keyLength" "[I", Cond.fieldLink RX12 57 "FieldScribeModel" "keys" "[I", Cond.fieldLink RX12 63 "FieldScribeModel" "sums" "[I", Cond.methodLink RX12 196 yX12_rowOf, Cond.instanceMethod yX12_rowOf, Cond.selects RX12 yX12_rowOf yX12_rowOf, Cond.code yX12_rowOf cX12_rowOf 6 (some .int), Cond.methodLink RX12 212 yX12_prints, Cond.instanceMethod yX12_prints, Cond.selects RX12 yX12_prints yX12_prints, Cond.code yX12_prints cX12_prints 3 none, Cond.fieldLink RX12 199 "FieldScribeModel" "lines" "I", Cond.fieldLink RX12 69 "FieldScribeModel" "printedLength" "[I", Cond.fieldLink RX12 66 "FieldScribeModel" "printed" "[I", Cond.methodLink RX12 215 yX12_drops, Cond.instanceMethod yX12_drops, Cond.selects RX12 yX12_drops yX12_drops, Cond.code yX12_drops cX12_drops 5 none]
def wsX12_does : List Cond := .code yX12_does cX12_does 2 none :: ((wsX12_does_r1 ++ (wsX12_does_r2 ++ (wsX12_does_r3 ++ (wsX12_does_r4 ++ wsX12_does_r5)))) ++ wsX120)
def wsX12_acts_r1 : List Cond := [Cond.fieldLink RX12 39 "FieldScribeModel" "actions" "[I", Cond.fieldLink RX12 42 "FieldScribeModel" "kind" "[I", Cond.methodLink RX12 218 yX12_does, Cond.instanceMethod yX12_does, Cond.selects RX12 yX12_does yX12_does, Cond.initialized RX12, Cond.code yX12_does cX12_does 2 none, Cond.fieldLink RX12 45 "FieldScribeModel" "field" "[I", Cond.methodLink RX12 202 yX12_finds, Cond.instanceMethod yX12_finds, Cond.selects RX12 yX12_finds yX12_finds, Cond.code yX12_finds cX12_finds 9 (some .int), Cond.fieldLink RX12 48 "FieldScribeModel" "operation" "[I", Cond.fieldLink RX12 94 "FieldScribeModel" "madeLength" "I", Cond.fieldLink RX12 51 "FieldScribeModel" "x" "[I", Cond.fieldLink RX12 54 "FieldScribeModel" "y" "[I", Cond.fieldLink RX12 100 "FieldScribeModel" "valueLength" "I", Cond.fieldLink RX12 72 "FieldScribeModel" "value" "[I", Cond.fieldLink RX12 75 "FieldScribeModel" "made" "[I", Cond.methodLink RX12 150 yX12_addsOperand, Cond.instanceMethod yX12_addsOperand, Cond.selects RX12 yX12_addsOperand yX12_addsOperand, Cond.code yX12_addsOperand cX12_addsOperand 3 none, Cond.fieldLink RX12 13 "FieldScribeModel" "record" "[I"]
def wsX12_acts_r2 : List Cond := [Cond.methodLink RX12 138 yX12_isFieldOf, Cond.static yX12_isFieldOf, Cond.code yX12_isFieldOf cX12_isFieldOf 1 (some .boolean), Cond.methodLink RX12 84 yX12_isIn, Cond.static yX12_isIn, Cond.code yX12_isIn cX12_isIn 3 (some .boolean), Cond.methodLink RX12 110 yX12_from, Cond.instanceMethod yX12_from, Cond.selects RX12 yX12_from yX12_from, Cond.code yX12_from cX12_from 2 (some .int), Cond.fieldLink RX12 88 "FieldScribeModel" "fields" "I", Cond.fieldLink RX12 17 "FieldScribeModel" "begins" "[I", Cond.methodLink RX12 114 yX12_to, Cond.instanceMethod yX12_to, Cond.selects RX12 yX12_to yX12_to, Cond.code yX12_to cX12_to 2 (some .int), Cond.fieldLink RX12 91 "FieldScribeModel" "length" "I", Cond.fieldLink RX12 20 "FieldScribeModel" "ends" "[I", Cond.methodLink RX12 103 yX12_adds, Cond.instanceMethod yX12_adds, Cond.selects RX12 yX12_adds yX12_adds, Cond.code yX12_adds cX12_adds 2 none, Cond.methodLink RX12 144 yX12_numberOfOperand, Cond.instanceMethod yX12_numberOfOperand]
def wsX12_acts_r3 : List Cond := [Cond.selects RX12 yX12_numberOfOperand yX12_numberOfOperand, Cond.code yX12_numberOfOperand cX12_numberOfOperand 2 (some .int), Cond.fieldLink RX12 141 "FieldScribeModel" "number" "I", Cond.methodLink RX12 130 yX12_numberOf, Cond.instanceMethod yX12_numberOf, Cond.selects RX12 yX12_numberOf yX12_numberOf, Cond.code yX12_numberOf cX12_numberOf 6 (some .int), Cond.methodLink RX12 124 yX12_numeric, Cond.instanceMethod yX12_numeric, Cond.selects RX12 yX12_numeric yX12_numeric, Cond.code yX12_numeric cX12_numeric 6 (some .int), Cond.methodLink RX12 120 yX12_isDigit, Cond.static yX12_isDigit, Cond.code yX12_isDigit cX12_isDigit 1 (some .boolean), Cond.methodLink RX12 147 yX12_writes, Cond.instanceMethod yX12_writes, Cond.selects RX12 yX12_writes yX12_writes, Cond.code yX12_writes cX12_writes 6 none, Cond.fieldLink RX12 78 "FieldScribeModel" "digits" "[I", Cond.constantLong RX12 136 (10), Cond.methodLink RX12 107 yX12_addsValue, Cond.instanceMethod yX12_addsValue, Cond.selects RX12 yX12_addsValue yX12_addsValue, Cond.code yX12_addsValue cX12_addsValue 2 none]
def wsX12_acts_r4 : List Cond := [Cond.methodLink RX12 153 yX12_numberOfValue, Cond.instanceMethod yX12_numberOfValue, Cond.selects RX12 yX12_numberOfValue yX12_numberOfValue, Cond.code yX12_numberOfValue cX12_numberOfValue 4 (some .int), Cond.methodLink RX12 157 yX12_fits, Cond.instanceMethod yX12_fits, Cond.selects RX12 yX12_fits yX12_fits, Cond.code yX12_fits cX12_fits 4 (some .int), Cond.constantLong RX12 161 (-2147483648), Cond.constantLong RX12 163 (2147483647), Cond.fieldLink RX12 165 "FieldScribeModel" "faults" "I", Cond.methodLink RX12 205 yX12_sets, Cond.instanceMethod yX12_sets, Cond.selects RX12 yX12_sets yX12_sets, Cond.code yX12_sets cX12_sets 5 none, Cond.fieldLink RX12 7 "FieldScribeModel" "separator" "I", Cond.methodLink RX12 117 yX12_becomes, Cond.instanceMethod yX12_becomes, Cond.selects RX12 yX12_becomes yX12_becomes, Cond.code yX12_becomes cX12_becomes 2 none, Cond.methodLink RX12 97 yX12_cuts, Cond.instanceMethod yX12_cuts, Cond.selects RX12 yX12_cuts yX12_cuts, Cond.code yX12_cuts cX12_cuts 2 none]
def wsX12_acts_r5 : List Cond := [Cond.methodLink RX12 208 yX12_grows, Cond.instanceMethod yX12_grows, Cond.selects RX12 yX12_grows yX12_grows, Cond.code yX12_grows cX12_grows 5 none, Cond.fieldLink RX12 193 "FieldScribeModel" "rows" "I", Cond.fieldLink RX12 60 "FieldScribeModel" "keyLength" "[I", Cond.fieldLink RX12 57 "FieldScribeModel" "keys" "[I", Cond.fieldLink RX12 63 "FieldScribeModel" "sums" "[I", Cond.methodLink RX12 196 yX12_rowOf, Cond.instanceMethod yX12_rowOf, Cond.selects RX12 yX12_rowOf yX12_rowOf, Cond.code yX12_rowOf cX12_rowOf 6 (some .int), Cond.methodLink RX12 212 yX12_prints, Cond.instanceMethod yX12_prints, Cond.selects RX12 yX12_prints yX12_prints, Cond.code yX12_prints cX12_prints 3 none, Cond.fieldLink RX12 199 "FieldScribeModel" "lines" "I", Cond.fieldLink RX12 69 "FieldScribeModel" "printedLength" "[I", Cond.fieldLink RX12 66 "FieldScribeModel" "printed" "[I", Cond.methodLink RX12 215 yX12_drops, Cond.instanceMethod yX12_drops, Cond.selects RX12 yX12_drops yX12_drops, Cond.code yX12_drops cX12_drops 5 none]
def wsX12_acts : List Cond := .code yX12_acts cX12_acts 3 (some .boolean) :: ((wsX12_acts_r1 ++ (wsX12_acts_r2 ++ (wsX12_acts_r3 ++ (wsX12_acts_r4 ++ wsX12_acts_r5)))) ++ wsX120)
def wsX12_end_r1 : List Cond := [Cond.fieldLink RX12 81 "FieldScribeModel" "thrown" "I", Cond.fieldLink RX12 183 "FieldScribeModel" "many" "I", Cond.fieldLink RX12 91 "FieldScribeModel" "length" "I", Cond.fieldLink RX12 13 "FieldScribeModel" "record" "[I", Cond.fieldLink RX12 23 "FieldScribeModel" "typed" "[I", Cond.fieldLink RX12 141 "FieldScribeModel" "number" "I", Cond.fieldLink RX12 168 "FieldScribeModel" "rules" "I", Cond.methodLink RX12 97 yX12_cuts, Cond.instanceMethod yX12_cuts, Cond.selects RX12 yX12_cuts yX12_cuts, Cond.initialized RX12, Cond.code yX12_cuts cX12_cuts 2 none, Cond.fieldLink RX12 88 "FieldScribeModel" "fields" "I", Cond.fieldLink RX12 17 "FieldScribeModel" "begins" "[I", Cond.fieldLink RX12 7 "FieldScribeModel" "separator" "I", Cond.fieldLink RX12 20 "FieldScribeModel" "ends" "[I", Cond.methodLink RX12 221 yX12_isTrue, Cond.instanceMethod yX12_isTrue, Cond.selects RX12 yX12_isTrue yX12_isTrue, Cond.code yX12_isTrue cX12_isTrue 5 (some .boolean), Cond.fieldLink RX12 29 "FieldScribeModel" "first" "[I", Cond.fieldLink RX12 32 "FieldScribeModel" "second" "[I", Cond.fieldLink RX12 26 "FieldScribeModel" "pattern" "[I", Cond.fieldLink RX12 35 "FieldScribeModel" "isOn" "[Z"]
def wsX12_end_r2 : List Cond := [Cond.methodLink RX12 186 yX12_isSame, Cond.instanceMethod yX12_isSame, Cond.selects RX12 yX12_isSame yX12_isSame, Cond.code yX12_isSame cX12_isSame 3 (some .boolean), Cond.methodLink RX12 127 yX12_isNumeric, Cond.instanceMethod yX12_isNumeric, Cond.selects RX12 yX12_isNumeric yX12_isNumeric, Cond.code yX12_isNumeric cX12_isNumeric 2 (some .boolean), Cond.methodLink RX12 124 yX12_numeric, Cond.instanceMethod yX12_numeric, Cond.selects RX12 yX12_numeric yX12_numeric, Cond.code yX12_numeric cX12_numeric 6 (some .int), Cond.methodLink RX12 110 yX12_from, Cond.instanceMethod yX12_from, Cond.selects RX12 yX12_from yX12_from, Cond.code yX12_from cX12_from 2 (some .int), Cond.methodLink RX12 114 yX12_to, Cond.instanceMethod yX12_to, Cond.selects RX12 yX12_to yX12_to, Cond.code yX12_to cX12_to 2 (some .int), Cond.methodLink RX12 120 yX12_isDigit, Cond.static yX12_isDigit, Cond.code yX12_isDigit cX12_isDigit 1 (some .boolean), Cond.methodLink RX12 84 yX12_isIn]
def wsX12_end_r3 : List Cond := [Cond.static yX12_isIn, Cond.code yX12_isIn cX12_isIn 3 (some .boolean), Cond.methodLink RX12 130 yX12_numberOf, Cond.instanceMethod yX12_numberOf, Cond.selects RX12 yX12_numberOf yX12_numberOf, Cond.code yX12_numberOf cX12_numberOf 6 (some .int), Cond.methodLink RX12 190 yX12_isLess, Cond.instanceMethod yX12_isLess, Cond.selects RX12 yX12_isLess yX12_isLess, Cond.code yX12_isLess cX12_isLess 5 (some .boolean), Cond.methodLink RX12 133 yX12_rank, Cond.static yX12_rank, Cond.code yX12_rank cX12_rank 1 (some .int), Cond.methodLink RX12 224 yX12_acts, Cond.instanceMethod yX12_acts, Cond.selects RX12 yX12_acts yX12_acts, Cond.code yX12_acts cX12_acts 3 (some .boolean), Cond.fieldLink RX12 39 "FieldScribeModel" "actions" "[I", Cond.fieldLink RX12 42 "FieldScribeModel" "kind" "[I", Cond.methodLink RX12 218 yX12_does, Cond.instanceMethod yX12_does, Cond.selects RX12 yX12_does yX12_does, Cond.code yX12_does cX12_does 2 none, Cond.fieldLink RX12 45 "FieldScribeModel" "field" "[I"]
def wsX12_end_r4 : List Cond := [Cond.methodLink RX12 202 yX12_finds, Cond.instanceMethod yX12_finds, Cond.selects RX12 yX12_finds yX12_finds, Cond.code yX12_finds cX12_finds 9 (some .int), Cond.fieldLink RX12 48 "FieldScribeModel" "operation" "[I", Cond.fieldLink RX12 94 "FieldScribeModel" "madeLength" "I", Cond.fieldLink RX12 51 "FieldScribeModel" "x" "[I", Cond.fieldLink RX12 54 "FieldScribeModel" "y" "[I", Cond.fieldLink RX12 100 "FieldScribeModel" "valueLength" "I", Cond.fieldLink RX12 72 "FieldScribeModel" "value" "[I", Cond.fieldLink RX12 75 "FieldScribeModel" "made" "[I", Cond.methodLink RX12 150 yX12_addsOperand, Cond.instanceMethod yX12_addsOperand, Cond.selects RX12 yX12_addsOperand yX12_addsOperand, Cond.code yX12_addsOperand cX12_addsOperand 3 none, Cond.methodLink RX12 138 yX12_isFieldOf, Cond.static yX12_isFieldOf, Cond.code yX12_isFieldOf cX12_isFieldOf 1 (some .boolean), Cond.methodLink RX12 103 yX12_adds, Cond.instanceMethod yX12_adds, Cond.selects RX12 yX12_adds yX12_adds, Cond.code yX12_adds cX12_adds 2 none, Cond.methodLink RX12 144 yX12_numberOfOperand, Cond.instanceMethod yX12_numberOfOperand]
def wsX12_end_r5 : List Cond := [Cond.selects RX12 yX12_numberOfOperand yX12_numberOfOperand, Cond.code yX12_numberOfOperand cX12_numberOfOperand 2 (some .int), Cond.methodLink RX12 147 yX12_writes, Cond.instanceMethod yX12_writes, Cond.selects RX12 yX12_writes yX12_writes, Cond.code yX12_writes cX12_writes 6 none, Cond.fieldLink RX12 78 "FieldScribeModel" "digits" "[I", Cond.constantLong RX12 136 (10), Cond.methodLink RX12 107 yX12_addsValue, Cond.instanceMethod yX12_addsValue, Cond.selects RX12 yX12_addsValue yX12_addsValue, Cond.code yX12_addsValue cX12_addsValue 2 none, Cond.methodLink RX12 153 yX12_numberOfValue, Cond.instanceMethod yX12_numberOfValue, Cond.selects RX12 yX12_numberOfValue yX12_numberOfValue, Cond.code yX12_numberOfValue cX12_numberOfValue 4 (some .int), Cond.methodLink RX12 157 yX12_fits, Cond.instanceMethod yX12_fits, Cond.selects RX12 yX12_fits yX12_fits, Cond.code yX12_fits cX12_fits 4 (some .int), Cond.constantLong RX12 161 (-2147483648), Cond.constantLong RX12 163 (2147483647), Cond.fieldLink RX12 165 "FieldScribeModel" "faults" "I", Cond.methodLink RX12 205 yX12_sets]
def wsX12_end_r6 : List Cond := [Cond.instanceMethod yX12_sets, Cond.selects RX12 yX12_sets yX12_sets, Cond.code yX12_sets cX12_sets 5 none, Cond.methodLink RX12 117 yX12_becomes, Cond.instanceMethod yX12_becomes, Cond.selects RX12 yX12_becomes yX12_becomes, Cond.code yX12_becomes cX12_becomes 2 none, Cond.methodLink RX12 208 yX12_grows, Cond.instanceMethod yX12_grows, Cond.selects RX12 yX12_grows yX12_grows, Cond.code yX12_grows cX12_grows 5 none, Cond.fieldLink RX12 193 "FieldScribeModel" "rows" "I", Cond.fieldLink RX12 60 "FieldScribeModel" "keyLength" "[I", Cond.fieldLink RX12 57 "FieldScribeModel" "keys" "[I", Cond.fieldLink RX12 63 "FieldScribeModel" "sums" "[I", Cond.methodLink RX12 196 yX12_rowOf, Cond.instanceMethod yX12_rowOf, Cond.selects RX12 yX12_rowOf yX12_rowOf, Cond.code yX12_rowOf cX12_rowOf 6 (some .int), Cond.methodLink RX12 212 yX12_prints, Cond.instanceMethod yX12_prints, Cond.selects RX12 yX12_prints yX12_prints, Cond.code yX12_prints cX12_prints 3 none, Cond.fieldLink RX12 199 "FieldScribeModel" "lines" "I"]
def wsX12_end_r7 : List Cond := [Cond.fieldLink RX12 69 "FieldScribeModel" "printedLength" "[I", Cond.fieldLink RX12 66 "FieldScribeModel" "printed" "[I", Cond.methodLink RX12 215 yX12_drops, Cond.instanceMethod yX12_drops, Cond.selects RX12 yX12_drops yX12_drops, Cond.code yX12_drops cX12_drops 5 none]
def wsX12_end : List Cond := .code yX12_end cX12_end 4 (some .int) :: ((wsX12_end_r1 ++ (wsX12_end_r2 ++ (wsX12_end_r3 ++ (wsX12_end_r4 ++ (wsX12_end_r5 ++ (wsX12_end_r6 ++ wsX12_end_r7)))))) ++ wsX120)
def wsX12_setField_r1 : List Cond := [Cond.fieldLink RX12 88 "FieldScribeModel" "fields" "I", Cond.methodLink RX12 174 yX12_isField, Cond.static yX12_isField, Cond.initialized RX12, Cond.code yX12_isField cX12_isField 1 (some .boolean), Cond.methodLink RX12 84 yX12_isIn, Cond.static yX12_isIn, Cond.code yX12_isIn cX12_isIn 3 (some .boolean), Cond.methodLink RX12 171 yX12_fails, Cond.instanceMethod yX12_fails, Cond.selects RX12 yX12_fails yX12_fails, Cond.code yX12_fails cX12_fails 2 (some .boolean), Cond.fieldLink RX12 81 "FieldScribeModel" "thrown" "I", Cond.methodLink RX12 147 yX12_writes, Cond.instanceMethod yX12_writes, Cond.selects RX12 yX12_writes yX12_writes, Cond.code yX12_writes cX12_writes 6 none, Cond.fieldLink RX12 78 "FieldScribeModel" "digits" "[I", Cond.constantLong RX12 136 (10), Cond.fieldLink RX12 100 "FieldScribeModel" "valueLength" "I", Cond.fieldLink RX12 72 "FieldScribeModel" "value" "[I", Cond.methodLink RX12 205 yX12_sets, Cond.instanceMethod yX12_sets, Cond.selects RX12 yX12_sets yX12_sets]
def wsX12_setField_r2 : List Cond := [Cond.code yX12_sets cX12_sets 5 none, Cond.fieldLink RX12 94 "FieldScribeModel" "madeLength" "I", Cond.fieldLink RX12 7 "FieldScribeModel" "separator" "I", Cond.fieldLink RX12 13 "FieldScribeModel" "record" "[I", Cond.methodLink RX12 107 yX12_addsValue, Cond.instanceMethod yX12_addsValue, Cond.selects RX12 yX12_addsValue yX12_addsValue, Cond.code yX12_addsValue cX12_addsValue 2 none, Cond.methodLink RX12 103 yX12_adds, Cond.instanceMethod yX12_adds, Cond.selects RX12 yX12_adds yX12_adds, Cond.code yX12_adds cX12_adds 2 none, Cond.fieldLink RX12 75 "FieldScribeModel" "made" "[I", Cond.methodLink RX12 110 yX12_from, Cond.instanceMethod yX12_from, Cond.selects RX12 yX12_from yX12_from, Cond.code yX12_from cX12_from 2 (some .int), Cond.fieldLink RX12 17 "FieldScribeModel" "begins" "[I", Cond.methodLink RX12 114 yX12_to, Cond.instanceMethod yX12_to, Cond.selects RX12 yX12_to yX12_to, Cond.code yX12_to cX12_to 2 (some .int), Cond.fieldLink RX12 91 "FieldScribeModel" "length" "I", Cond.fieldLink RX12 20 "FieldScribeModel" "ends" "[I"]
def wsX12_setField_r3 : List Cond := [Cond.methodLink RX12 117 yX12_becomes, Cond.instanceMethod yX12_becomes, Cond.selects RX12 yX12_becomes yX12_becomes, Cond.code yX12_becomes cX12_becomes 2 none, Cond.methodLink RX12 97 yX12_cuts, Cond.instanceMethod yX12_cuts, Cond.selects RX12 yX12_cuts yX12_cuts, Cond.code yX12_cuts cX12_cuts 2 none]
def wsX12_setField : List Cond := .code yX12_setField cX12_setField 3 (some .int) :: ((wsX12_setField_r1 ++ (wsX12_setField_r2 ++ wsX12_setField_r3)) ++ wsX120)
def wsX12_fields : List Cond := .code yX12_fields cX12_fields 1 (some .int) :: ([.fieldLink RX12 81 "FieldScribeModel" "thrown" "I", .fieldLink RX12 88 "FieldScribeModel" "fields" "I"] ++ wsX120)
def wsX12_number_r1 : List Cond := [Cond.methodLink RX12 174 yX12_isField, Cond.static yX12_isField, Cond.initialized RX12, Cond.code yX12_isField cX12_isField 1 (some .boolean), Cond.methodLink RX12 84 yX12_isIn, Cond.static yX12_isIn, Cond.code yX12_isIn cX12_isIn 3 (some .boolean), Cond.methodLink RX12 171 yX12_fails, Cond.instanceMethod yX12_fails, Cond.selects RX12 yX12_fails yX12_fails, Cond.code yX12_fails cX12_fails 2 (some .boolean), Cond.fieldLink RX12 81 "FieldScribeModel" "thrown" "I", Cond.methodLink RX12 130 yX12_numberOf, Cond.instanceMethod yX12_numberOf, Cond.selects RX12 yX12_numberOf yX12_numberOf, Cond.code yX12_numberOf cX12_numberOf 6 (some .int), Cond.fieldLink RX12 13 "FieldScribeModel" "record" "[I", Cond.methodLink RX12 110 yX12_from, Cond.instanceMethod yX12_from, Cond.selects RX12 yX12_from yX12_from, Cond.code yX12_from cX12_from 2 (some .int), Cond.fieldLink RX12 88 "FieldScribeModel" "fields" "I", Cond.fieldLink RX12 17 "FieldScribeModel" "begins" "[I", Cond.methodLink RX12 114 yX12_to]
def wsX12_number_r2 : List Cond := [Cond.instanceMethod yX12_to, Cond.selects RX12 yX12_to yX12_to, Cond.code yX12_to cX12_to 2 (some .int), Cond.fieldLink RX12 91 "FieldScribeModel" "length" "I", Cond.fieldLink RX12 20 "FieldScribeModel" "ends" "[I", Cond.methodLink RX12 124 yX12_numeric, Cond.instanceMethod yX12_numeric, Cond.selects RX12 yX12_numeric yX12_numeric, Cond.code yX12_numeric cX12_numeric 6 (some .int), Cond.methodLink RX12 120 yX12_isDigit, Cond.static yX12_isDigit, Cond.code yX12_isDigit cX12_isDigit 1 (some .boolean)]
def wsX12_number : List Cond := .code yX12_number cX12_number 2 (some .int) :: ((wsX12_number_r1 ++ wsX12_number_r2) ++ wsX120)
def wsX12_character_r1 : List Cond := [Cond.fieldLink RX12 13 "FieldScribeModel" "record" "[I", Cond.methodLink RX12 174 yX12_isField, Cond.static yX12_isField, Cond.initialized RX12, Cond.code yX12_isField cX12_isField 1 (some .boolean), Cond.methodLink RX12 84 yX12_isIn, Cond.static yX12_isIn, Cond.code yX12_isIn cX12_isIn 3 (some .boolean), Cond.methodLink RX12 114 yX12_to, Cond.instanceMethod yX12_to, Cond.selects RX12 yX12_to yX12_to, Cond.code yX12_to cX12_to 2 (some .int), Cond.fieldLink RX12 91 "FieldScribeModel" "length" "I", Cond.fieldLink RX12 88 "FieldScribeModel" "fields" "I", Cond.fieldLink RX12 20 "FieldScribeModel" "ends" "[I", Cond.methodLink RX12 110 yX12_from, Cond.instanceMethod yX12_from, Cond.selects RX12 yX12_from yX12_from, Cond.code yX12_from cX12_from 2 (some .int), Cond.fieldLink RX12 17 "FieldScribeModel" "begins" "[I", Cond.methodLink RX12 171 yX12_fails, Cond.instanceMethod yX12_fails, Cond.selects RX12 yX12_fails yX12_fails, Cond.code yX12_fails cX12_fails 2 (some .boolean)]
def wsX12_character_r2 : List Cond := [Cond.fieldLink RX12 81 "FieldScribeModel" "thrown" "I"]
def wsX12_character : List Cond := .code yX12_character cX12_character 4 (some .char) :: ((wsX12_character_r1 ++ wsX12_character_r2) ++ wsX120)
def wsX12_rows : List Cond := .code yX12_rows cX12_rows 1 (some .int) :: ([.fieldLink RX12 81 "FieldScribeModel" "thrown" "I", .fieldLink RX12 193 "FieldScribeModel" "rows" "I"] ++ wsX120)
def wsX12_row : List Cond := .code yX12_row cX12_row 2 (some .int) :: ([.fieldLink RX12 193 "FieldScribeModel" "rows" "I", .fieldLink RX12 63 "FieldScribeModel" "sums" "[I", .methodLink RX12 84 yX12_isIn, .static yX12_isIn, .initialized RX12, .code yX12_isIn cX12_isIn 3 (some .boolean), .methodLink RX12 171 yX12_fails, .instanceMethod yX12_fails, .selects RX12 yX12_fails yX12_fails, .code yX12_fails cX12_fails 2 (some .boolean), .fieldLink RX12 81 "FieldScribeModel" "thrown" "I"] ++ wsX120)
def wsX12_key : List Cond := .code yX12_key cX12_key 4 (some .char) :: ([.fieldLink RX12 193 "FieldScribeModel" "rows" "I", .fieldLink RX12 60 "FieldScribeModel" "keyLength" "[I", .fieldLink RX12 57 "FieldScribeModel" "keys" "[I", .methodLink RX12 84 yX12_isIn, .static yX12_isIn, .initialized RX12, .code yX12_isIn cX12_isIn 3 (some .boolean), .methodLink RX12 171 yX12_fails, .instanceMethod yX12_fails, .selects RX12 yX12_fails yX12_fails, .code yX12_fails cX12_fails 2 (some .boolean), .fieldLink RX12 81 "FieldScribeModel" "thrown" "I"] ++ wsX120)
def wsX12_lines : List Cond := .code yX12_lines cX12_lines 1 (some .int) :: ([.fieldLink RX12 81 "FieldScribeModel" "thrown" "I", .fieldLink RX12 199 "FieldScribeModel" "lines" "I"] ++ wsX120)
def wsX12_line : List Cond := .code yX12_line cX12_line 4 (some .char) :: ([.fieldLink RX12 199 "FieldScribeModel" "lines" "I", .fieldLink RX12 69 "FieldScribeModel" "printedLength" "[I", .fieldLink RX12 66 "FieldScribeModel" "printed" "[I", .methodLink RX12 84 yX12_isIn, .static yX12_isIn, .initialized RX12, .code yX12_isIn cX12_isIn 3 (some .boolean), .methodLink RX12 171 yX12_fails, .instanceMethod yX12_fails, .selects RX12 yX12_fails yX12_fails, .code yX12_fails cX12_fails 2 (some .boolean), .fieldLink RX12 81 "FieldScribeModel" "thrown" "I"] ++ wsX120)
def wsX12_faults : List Cond := .code yX12_faults cX12_faults 1 (some .int) :: ([.fieldLink RX12 81 "FieldScribeModel" "thrown" "I", .fieldLink RX12 165 "FieldScribeModel" "faults" "I"] ++ wsX120)
def wsJ9_max_7cf53 : List Cond := .code yJ9_max_7cf53 cJ9_max_7cf53 2 (some .int) :: ([])
def wsJ9_min_7cf53 : List Cond := .code yJ9_min_7cf53 cJ9_min_7cf53 2 (some .int) :: ([])
def wsL_rule_r1 : List Cond := [Cond.classLink RL 13 "java/lang/IllegalArgumentException", Cond.classLink RL 15 "java/lang/IllegalStateException", Cond.methodLink RL 7 yX11_rule, Cond.instanceMethod yX11_rule, Cond.selects RX11 yX11_rule yX11_rule, Cond.initialized RX11, Cond.code yX11_rule cX11_rule 4 (some .int), Cond.classLink RX11 58 "java/lang/IllegalArgumentException", Cond.initialized "java/lang/IllegalArgumentException", Cond.classLink RX11 69 "java/lang/IllegalStateException", Cond.initialized "java/lang/IllegalStateException", Cond.fieldLink RX11 12 "FieldScribe" "program" "Ljava/util/ArrayList;", Cond.classLink RX11 74 RX7, Cond.instantiable RX7 5, Cond.initialized RX7, Cond.methodLink RX11 54 yX11_isPattern, Cond.static yX11_isPattern, Cond.code yX11_isPattern cX11_isPattern 3 (some .boolean), Cond.methodLink RX11 88 yX11_isField, Cond.static yX11_isField, Cond.code yX11_isField cX11_isField 1 (some .boolean), Cond.methodLink RX11 208 yX11_isNumber, Cond.static yX11_isNumber, Cond.code yX11_isNumber cX11_isNumber 1 (some .boolean)]
def wsL_rule_r2 : List Cond := [Cond.methodLink RX11 65 yJx4a65c_size_8abf5, Cond.instanceMethod yJx4a65c_size_8abf5, Cond.selects RJx4a65c yJx4a65c_size_8abf5 yJx4a65c_size_8abf5, Cond.initialized RJx4a65c, Cond.code yJx4a65c_size_8abf5 cJx4a65c_size_8abf5 1 (some .int), Cond.fieldLink RJx4a65c 48 "java/util/ArrayList" "size" "I", Cond.methodLink RX11 76 yX7_init, Cond.instanceMethod yX7_init, Cond.code yX7_init cX7_init 4 none, Cond.methodLink RX7 3 objectInit, Cond.instanceMethod objectInit, Cond.code objectInit ⟨#[0xb1]⟩ 1 none, Cond.classLink RX7 9 RJx4a65c, Cond.instantiable RJx4a65c 3, Cond.fieldLink RX7 12 "FieldScribe$Rule" "actions" "Ljava/util/ArrayList;", Cond.fieldLink RX7 18 "FieldScribe$Rule" "pattern" "I", Cond.fieldLink RX7 22 "FieldScribe$Rule" "a" "I", Cond.fieldLink RX7 25 "FieldScribe$Rule" "b" "I", Cond.methodLink RX7 11 yJx4a65c_init_da8c8, Cond.instanceMethod yJx4a65c_init_da8c8, Cond.code yJx4a65c_init_da8c8 cJx4a65c_init_da8c8 1 none, Cond.fieldLink RJx4a65c 39 "java/util/ArrayList" "DEFAULTCAPACITY_EMPTY_ELEMENTDATA" "[Ljava/lang/Object;", Cond.fieldLink RJx4a65c 9 "java/util/ArrayList" "elementData" "[Ljava/lang/Object;", Cond.methodLink RJx4a65c 1 yJxc12de_init_da8c8]
def wsL_rule_r3 : List Cond := [Cond.instanceMethod yJxc12de_init_da8c8, Cond.initialized RJxc12de, Cond.code yJxc12de_init_da8c8 cJxc12de_init_da8c8 1 none, Cond.fieldLink RJxc12de 7 "java/util/AbstractList" "modCount" "I", Cond.methodLink RJxc12de 1 yJxa1e45_init_da8c8, Cond.instanceMethod yJxa1e45_init_da8c8, Cond.initialized RJxa1e45, Cond.code yJxa1e45_init_da8c8 cJxa1e45_init_da8c8 1 none, Cond.methodLink RJxa1e45 1 objectInit, Cond.methodLink RX11 79 yJx4a65c_add_9ea2d, Cond.instanceMethod yJx4a65c_add_9ea2d, Cond.selects RJx4a65c yJx4a65c_add_9ea2d yJx4a65c_add_9ea2d, Cond.code yJx4a65c_add_9ea2d cJx4a65c_add_9ea2d 2 (some .boolean), Cond.fieldLink RJx4a65c 63 "java/util/ArrayList" "modCount" "I", Cond.sameField "java/util/ArrayList" "java/util/AbstractList" "modCount" "I", Cond.methodLink RJx4a65c 131 yJx4a65c_add_72be8, Cond.instanceMethod yJx4a65c_add_72be8, Cond.selects RJx4a65c yJx4a65c_add_72be8 yJx4a65c_add_72be8, Cond.code yJx4a65c_add_72be8 cJx4a65c_add_72be8 4 none, Cond.methodLink RJx4a65c 129 yJx4a65c_grow_d5877, Cond.instanceMethod yJx4a65c_grow_d5877, Cond.selects RJx4a65c yJx4a65c_grow_d5877 yJx4a65c_grow_d5877, Cond.code yJx4a65c_grow_d5877 cJx4a65c_grow_d5877 1 (some (.array (.object "java/lang/Object"))), Cond.methodLink RJx4a65c 69 yJx4a65c_grow_92f84]
def wsL_rule_r4 : List Cond := [Cond.instanceMethod yJx4a65c_grow_92f84, Cond.selects RJx4a65c yJx4a65c_grow_92f84 yJx4a65c_grow_92f84, Cond.code yJx4a65c_grow_92f84 cJx4a65c_grow_92f84 4 (some (.array (.object "java/lang/Object"))), Cond.methodLink RJx4a65c 79 Lib.Math.max.name, Cond.static Lib.Math.max.name, Cond.initialized "java/lang/Math", Cond.code Lib.Math.max.name Lib.Math.max.code 2 (some .int), Cond.classLink RJx4a65c 7 "java/lang/Object", Cond.methodLink RJx4a65c 73 yJ8_newLength_cabcc, Cond.static yJ8_newLength_cabcc, Cond.initialized RJ8, Cond.code yJ8_newLength_cabcc cJ8_newLength_cabcc 4 (some .int), Cond.methodLink RJ8 194 Lib.Math.max.name, Cond.constant RJ8 200 (2147483639), Cond.methodLink RJ8 201 yJ8_hugeLength_7cf53, Cond.static yJ8_hugeLength_7cf53, Cond.code yJ8_hugeLength_7cf53 cJ8_hugeLength_7cf53 3 (some .int), Cond.methodLink RJx4a65c 66 yJ7_copyOf_1904c, Cond.static yJ7_copyOf_1904c, Cond.initialized RJ7, Cond.code yJ7_copyOf_1904c cJ7_copyOf_1904c 2 (some (.array (.object "java/lang/Object"))), Cond.methodLink RJ7 86 ⟨"java/lang/Object", "getClass", "()Ljava/lang/Class;"⟩, Cond.selects "[Ljava/lang/Object;" ⟨"java/lang/Object", "getClass", "()Ljava/lang/Class;"⟩ ⟨"java/lang/Object", "getClass", "()Ljava/lang/Class;"⟩, Cond.instanceMethod ⟨"java/lang/Object", "getClass", "()Ljava/lang/Class;"⟩]
def wsL_rule_r5 : List Cond := [Cond.native ⟨"java/lang/Object", "getClass", "()Ljava/lang/Class;"⟩, Cond.methodLink RJ7 300 yJ7_copyOf_6403c, Cond.static yJ7_copyOf_6403c, Cond.code yJ7_copyOf_6403c cJ7_copyOf_6403c 4 (some (.array (.object "java/lang/Object"))), Cond.classLink RJ7 110 "[Ljava/lang/Object;", Cond.classLink RJ7 2 "java/lang/Object", Cond.methodLink RJ7 304 Lib.Math.min.name, Cond.static Lib.Math.min.name, Cond.code Lib.Math.min.name Lib.Math.min.code 2 (some .int), Cond.methodLink RJ7 150 arraycopyName, Cond.native arraycopyName, Cond.static arraycopyName, Cond.initialized "java/lang/System"]
def wsL_rule : List Cond := .codeWith yL_rule cL_rule 6 (some .int) [(0, 12, 15, 13), (0, 12, 19, 15)] :: ((wsL_rule_r1 ++ (wsL_rule_r2 ++ (wsL_rule_r3 ++ (wsL_rule_r4 ++ wsL_rule_r5)))) ++ wsX110 ++ wsX70 ++ wsJx4a65c0 ++ (vx_atS RX11 62 "java/lang/IllegalArgumentException" ["java/lang/RuntimeException", "java/lang/Exception"]).filter goodWord ++ (vx_atS RX11 73 "java/lang/IllegalStateException" ["java/lang/RuntimeException", "java/lang/Exception"]).filter goodWord)
def wsL_act_r1 : List Cond := [Cond.classLink RL 21 "java/lang/IndexOutOfBoundsException", Cond.classLink RL 13 "java/lang/IllegalArgumentException", Cond.classLink RL 15 "java/lang/IllegalStateException", Cond.methodLink RL 17 yX11_act, Cond.instanceMethod yX11_act, Cond.selects RX11 yX11_act yX11_act, Cond.initialized RX11, Cond.code yX11_act cX11_act 8 (some .int), Cond.classLink RX11 83 "java/lang/IndexOutOfBoundsException", Cond.initialized "java/lang/IndexOutOfBoundsException", Cond.classLink RX11 58 "java/lang/IllegalArgumentException", Cond.initialized "java/lang/IllegalArgumentException", Cond.classLink RX11 69 "java/lang/IllegalStateException", Cond.initialized "java/lang/IllegalStateException", Cond.fieldLink RX11 12 "FieldScribe" "program" "Ljava/util/ArrayList;", Cond.classLink RX11 74 "FieldScribe$Rule", Cond.classLink RX11 108 RX0, Cond.instantiable RX0 4, Cond.initialized RX0, Cond.methodLink RX11 65 yJx4a65c_size_8abf5, Cond.instanceMethod yJx4a65c_size_8abf5, Cond.selects RJx4a65c yJx4a65c_size_8abf5 yJx4a65c_size_8abf5, Cond.initialized RJx4a65c, Cond.code yJx4a65c_size_8abf5 cJx4a65c_size_8abf5 1 (some .int)]
def wsL_act_r2 : List Cond := [Cond.fieldLink RJx4a65c 48 "java/util/ArrayList" "size" "I", Cond.methodLink RX11 88 yX11_isField, Cond.static yX11_isField, Cond.code yX11_isField cX11_isField 1 (some .boolean), Cond.methodLink RX11 94 yX11_isOperand, Cond.static yX11_isOperand, Cond.code yX11_isOperand cX11_isOperand 1 (some .boolean), Cond.methodLink RX11 208 yX11_isNumber, Cond.static yX11_isNumber, Cond.code yX11_isNumber cX11_isNumber 1 (some .boolean), Cond.methodLink RX11 99 yJx4a65c_get_915e3, Cond.instanceMethod yJx4a65c_get_915e3, Cond.selects RJx4a65c yJx4a65c_get_915e3 yJx4a65c_get_915e3, Cond.code yJx4a65c_get_915e3 cJx4a65c_get_915e3 2 (some (.object "java/lang/Object")), Cond.methodLink RJx4a65c 118 yJ15_checkIndex_7cf53, Cond.static yJ15_checkIndex_7cf53, Cond.initialized RJ15, Cond.code yJ15_checkIndex_7cf53 cJ15_checkIndex_7cf53 2 (some .int), Cond.methodLink RJ15 105 yJ3_checkIndex_8e157, Cond.static yJ3_checkIndex_8e157, Cond.initialized RJ3, Cond.code yJ3_checkIndex_8e157 cJ3_checkIndex_8e157 3 (some .int), Cond.methodLink RJx4a65c 123 yJx4a65c_elementData_915e3, Cond.instanceMethod yJx4a65c_elementData_915e3]
def wsL_act_r3 : List Cond := [Cond.selects RJx4a65c yJx4a65c_elementData_915e3 yJx4a65c_elementData_915e3, Cond.code yJx4a65c_elementData_915e3 cJx4a65c_elementData_915e3 2 (some (.object "java/lang/Object")), Cond.fieldLink RJx4a65c 9 "java/util/ArrayList" "elementData" "[Ljava/lang/Object;", Cond.methodLink RX11 110 yX11_treeOf, Cond.static yX11_treeOf, Cond.code yX11_treeOf cX11_treeOf 3 (some (.object "FieldScribe$Node")), Cond.classLink RX11 259 RX2, Cond.instantiable RX2 1, Cond.initialized RX2, Cond.classLink RX11 263 RX1, Cond.instantiable RX1 4, Cond.initialized RX1, Cond.methodLink RX11 261 yX2_init, Cond.instanceMethod yX2_init, Cond.code yX2_init cX2_init 2 none, Cond.fieldLink RX2 7 "FieldScribe$Leaf" "operand" "I", Cond.instanceMethod yX3_init, Cond.initialized RX3, Cond.code yX3_init cX3_init 1 none, Cond.methodLink RX3 1 objectInit, Cond.instanceMethod objectInit, Cond.code objectInit ⟨#[0xb1]⟩ 1 none, Cond.methodLink RX11 265 yX1_init, Cond.instanceMethod yX1_init]
def wsL_act_r4 : List Cond := [Cond.code yX1_init cX1_init 4 none, Cond.classLink RX1 7 RX10, Cond.instantiable RX10 2, Cond.initialized RX10, Cond.fieldLink RX1 10 "FieldScribe$Fork" "second" "LFieldScribe$Text;", Cond.fieldLink RX1 16 "FieldScribe$Fork" "operation" "I", Cond.fieldLink RX1 20 "FieldScribe$Fork" "left" "LFieldScribe$Leaf;", Cond.fieldLink RX1 24 "FieldScribe$Fork" "right" "LFieldScribe$Leaf;", Cond.instanceMethod yX10_init, Cond.code yX10_init cX10_init 1 none, Cond.methodLink RX10 3 objectInit, Cond.arrayClass .char, Cond.fieldLink RX10 9 "FieldScribe$Text" "signs" "[C", Cond.methodLink RX11 114 yX11_codeOf, Cond.static yX11_codeOf, Cond.code yX11_codeOf cX11_codeOf 3 (some (.array .int)), Cond.arrayClass .int, Cond.methodLink RX11 118 yX0_init, Cond.instanceMethod yX0_init, Cond.code yX0_init cX0_init 5 none, Cond.methodLink RX0 1 objectInit, Cond.fieldLink RX0 7 "FieldScribe$Action" "kind" "I", Cond.fieldLink RX0 13 "FieldScribe$Action" "field" "I", Cond.fieldLink RX0 16 "FieldScribe$Action" "tree" "LFieldScribe$Node;"]
def wsL_act_r5 : List Cond := [Cond.fieldLink RX0 20 "FieldScribe$Action" "code" "[I", Cond.methodLink RX11 79 yJx4a65c_add_9ea2d, Cond.instanceMethod yJx4a65c_add_9ea2d, Cond.selects RJx4a65c yJx4a65c_add_9ea2d yJx4a65c_add_9ea2d, Cond.code yJx4a65c_add_9ea2d cJx4a65c_add_9ea2d 2 (some .boolean), Cond.fieldLink RJx4a65c 63 "java/util/ArrayList" "modCount" "I", Cond.sameField "java/util/ArrayList" "java/util/AbstractList" "modCount" "I", Cond.methodLink RJx4a65c 131 yJx4a65c_add_72be8, Cond.instanceMethod yJx4a65c_add_72be8, Cond.selects RJx4a65c yJx4a65c_add_72be8 yJx4a65c_add_72be8, Cond.code yJx4a65c_add_72be8 cJx4a65c_add_72be8 4 none, Cond.methodLink RJx4a65c 129 yJx4a65c_grow_d5877, Cond.instanceMethod yJx4a65c_grow_d5877, Cond.selects RJx4a65c yJx4a65c_grow_d5877 yJx4a65c_grow_d5877, Cond.code yJx4a65c_grow_d5877 cJx4a65c_grow_d5877 1 (some (.array (.object "java/lang/Object"))), Cond.methodLink RJx4a65c 69 yJx4a65c_grow_92f84, Cond.instanceMethod yJx4a65c_grow_92f84, Cond.selects RJx4a65c yJx4a65c_grow_92f84 yJx4a65c_grow_92f84, Cond.code yJx4a65c_grow_92f84 cJx4a65c_grow_92f84 4 (some (.array (.object "java/lang/Object"))), Cond.fieldLink RJx4a65c 39 "java/util/ArrayList" "DEFAULTCAPACITY_EMPTY_ELEMENTDATA" "[Ljava/lang/Object;", Cond.methodLink RJx4a65c 79 Lib.Math.max.name, Cond.static Lib.Math.max.name, Cond.initialized "java/lang/Math", Cond.code Lib.Math.max.name Lib.Math.max.code 2 (some .int)]
def wsL_act_r6 : List Cond := [Cond.classLink RJx4a65c 7 "java/lang/Object", Cond.methodLink RJx4a65c 73 yJ8_newLength_cabcc, Cond.static yJ8_newLength_cabcc, Cond.initialized RJ8, Cond.code yJ8_newLength_cabcc cJ8_newLength_cabcc 4 (some .int), Cond.methodLink RJ8 194 Lib.Math.max.name, Cond.constant RJ8 200 (2147483639), Cond.methodLink RJ8 201 yJ8_hugeLength_7cf53, Cond.static yJ8_hugeLength_7cf53, Cond.code yJ8_hugeLength_7cf53 cJ8_hugeLength_7cf53 3 (some .int), Cond.methodLink RJx4a65c 66 yJ7_copyOf_1904c, Cond.static yJ7_copyOf_1904c, Cond.initialized RJ7, Cond.code yJ7_copyOf_1904c cJ7_copyOf_1904c 2 (some (.array (.object "java/lang/Object"))), Cond.methodLink RJ7 86 ⟨"java/lang/Object", "getClass", "()Ljava/lang/Class;"⟩, Cond.selects "[Ljava/lang/Object;" ⟨"java/lang/Object", "getClass", "()Ljava/lang/Class;"⟩ ⟨"java/lang/Object", "getClass", "()Ljava/lang/Class;"⟩, Cond.instanceMethod ⟨"java/lang/Object", "getClass", "()Ljava/lang/Class;"⟩, Cond.native ⟨"java/lang/Object", "getClass", "()Ljava/lang/Class;"⟩, Cond.methodLink RJ7 300 yJ7_copyOf_6403c, Cond.static yJ7_copyOf_6403c, Cond.code yJ7_copyOf_6403c cJ7_copyOf_6403c 4 (some (.array (.object "java/lang/Object"))), Cond.classLink RJ7 110 "[Ljava/lang/Object;", Cond.classLink RJ7 2 "java/lang/Object", Cond.methodLink RJ7 304 Lib.Math.min.name]
def wsL_act_r7 : List Cond := [Cond.static Lib.Math.min.name, Cond.code Lib.Math.min.name Lib.Math.min.code 2 (some .int), Cond.methodLink RJ7 150 arraycopyName, Cond.native arraycopyName, Cond.static arraycopyName, Cond.initialized "java/lang/System"]
def wsL_act : List Cond := .codeWith yL_act cL_act 9 (some .int) [(0, 18, 21, 21), (0, 18, 25, 13), (0, 18, 29, 15)] :: ((wsL_act_r1 ++ (wsL_act_r2 ++ (wsL_act_r3 ++ (wsL_act_r4 ++ (wsL_act_r5 ++ (wsL_act_r6 ++ wsL_act_r7)))))) ++ wsX110 ++ wsX70 ++ wsX00 ++ wsJx4a65c0 ++ wsX20 ++ wsX10 ++ wsX100 ++ (vx_atS RX11 87 "java/lang/IndexOutOfBoundsException" ["java/lang/RuntimeException", "java/lang/Exception"]).filter goodWord ++ (vx_atS RX11 62 "java/lang/IllegalArgumentException" ["java/lang/RuntimeException", "java/lang/Exception"]).filter goodWord ++ (vx_atS RX11 73 "java/lang/IllegalStateException" ["java/lang/RuntimeException", "java/lang/Exception"]).filter goodWord)
def wsL_setSeparator_r1 : List Cond := [Cond.classLink RL 13 "java/lang/IllegalArgumentException", Cond.methodLink RL 23 yX11_setSeparator, Cond.instanceMethod yX11_setSeparator, Cond.selects RX11 yX11_setSeparator yX11_setSeparator, Cond.initialized RX11, Cond.code yX11_setSeparator cX11_setSeparator 2 (some .int), Cond.fieldLink RX11 19 "FieldScribe" "page" "LFieldScribe$Page;", Cond.methodLink RX11 125 yX11_requireCode, Cond.static yX11_requireCode, Cond.code yX11_requireCode cX11_requireCode 1 none, Cond.classLink RX11 58 "java/lang/IllegalArgumentException", Cond.initialized "java/lang/IllegalArgumentException", Cond.methodLink RX11 129 yX11_signOf, Cond.static yX11_signOf, Cond.code yX11_signOf cX11_signOf 1 (some .char), Cond.methodLink RX11 137 yX4_cut, Cond.instanceMethod yX4_cut, Cond.selects RX4 yX4_cut yX4_cut, Cond.initialized RX4, Cond.code yX4_cut cX4_cut 3 none, Cond.fieldLink RX4 18 "FieldScribe$Page" "pieces" "[LFieldScribe$Text;", Cond.fieldLink RX4 12 "FieldScribe$Page" "whole" "LFieldScribe$Text;", Cond.fieldLink RX4 34 "FieldScribe$Page" "count" "I", Cond.fieldLink RX4 22 "FieldScribe$Page" "separator" "C"]
def wsL_setSeparator_r2 : List Cond := [Cond.methodLink RX4 51 yX10_clear, Cond.instanceMethod yX10_clear, Cond.selects RX10 yX10_clear yX10_clear, Cond.initialized RX10, Cond.code yX10_clear cX10_clear 1 none, Cond.fieldLink RX10 15 "FieldScribe$Text" "length" "I", Cond.methodLink RX4 64 yX10_at, Cond.instanceMethod yX10_at, Cond.selects RX10 yX10_at yX10_at, Cond.code yX10_at cX10_at 2 (some .char), Cond.fieldLink RX10 9 "FieldScribe$Text" "signs" "[C", Cond.methodLink RX4 26 yX4_get, Cond.instanceMethod yX4_get, Cond.selects RX4 yX4_get yX4_get, Cond.code yX4_get cX4_get 2 (some (.object "FieldScribe$Text")), Cond.methodLink RX4 54 yX10_put, Cond.instanceMethod yX10_put, Cond.selects RX10 yX10_put yX10_put, Cond.code yX10_put cX10_put 2 none]
def wsL_setSeparator : List Cond := .codeWith yL_setSeparator cL_setSeparator 4 (some .int) [(0, 9, 12, 13)] :: ((wsL_setSeparator_r1 ++ wsL_setSeparator_r2) ++ wsX110 ++ wsX40 ++ wsX100 ++ (vx_atS RX11 62 "java/lang/IllegalArgumentException" ["java/lang/RuntimeException", "java/lang/Exception"]).filter goodWord)
def wsL_type_r1 : List Cond := [Cond.classLink RL 13 "java/lang/IllegalArgumentException", Cond.classLink RL 15 "java/lang/IllegalStateException", Cond.methodLink RL 27 yX11_type, Cond.instanceMethod yX11_type, Cond.selects RX11 yX11_type yX11_type, Cond.initialized RX11, Cond.code yX11_type cX11_type 2 (some .int), Cond.classLink RX11 69 "java/lang/IllegalStateException", Cond.initialized "java/lang/IllegalStateException", Cond.fieldLink RX11 47 "FieldScribe" "typed" "LFieldScribe$Text;", Cond.methodLink RX11 125 yX11_requireCode, Cond.static yX11_requireCode, Cond.code yX11_requireCode cX11_requireCode 1 none, Cond.classLink RX11 58 "java/lang/IllegalArgumentException", Cond.initialized "java/lang/IllegalArgumentException", Cond.methodLink RX11 129 yX11_signOf, Cond.static yX11_signOf, Cond.code yX11_signOf cX11_signOf 1 (some .char), Cond.methodLink RX11 149 yX10_put, Cond.instanceMethod yX10_put, Cond.selects RX10 yX10_put yX10_put, Cond.initialized RX10, Cond.code yX10_put cX10_put 2 none, Cond.fieldLink RX10 15 "FieldScribe$Text" "length" "I"]
def wsL_type_r2 : List Cond := [Cond.fieldLink RX10 9 "FieldScribe$Text" "signs" "[C"]
def wsL_type : List Cond := .codeWith yL_type cL_type 4 (some .int) [(0, 9, 12, 13), (0, 9, 15, 15)] :: ((wsL_type_r1 ++ wsL_type_r2) ++ wsX110 ++ wsX100 ++ (vx_atS RX11 73 "java/lang/IllegalStateException" ["java/lang/RuntimeException", "java/lang/Exception"]).filter goodWord ++ (vx_atS RX11 62 "java/lang/IllegalArgumentException" ["java/lang/RuntimeException", "java/lang/Exception"]).filter goodWord)
def wsL_setField_r1 : List Cond := [Cond.classLink RL 21 "java/lang/IndexOutOfBoundsException", Cond.methodLink RL 30 yX11_setField, Cond.instanceMethod yX11_setField, Cond.selects RX11 yX11_setField yX11_setField, Cond.initialized RX11, Cond.code yX11_setField cX11_setField 3 (some .int), Cond.fieldLink RX11 51 "FieldScribe" "value" "LFieldScribe$Text;", Cond.fieldLink RX11 19 "FieldScribe" "page" "LFieldScribe$Page;", Cond.methodLink RX11 171 yX11_requireField, Cond.static yX11_requireField, Cond.code yX11_requireField cX11_requireField 1 none, Cond.classLink RX11 83 "java/lang/IndexOutOfBoundsException", Cond.initialized "java/lang/IndexOutOfBoundsException", Cond.methodLink RX11 88 yX11_isField, Cond.static yX11_isField, Cond.code yX11_isField cX11_isField 1 (some .boolean), Cond.methodLink RX11 174 yX10_write, Cond.instanceMethod yX10_write, Cond.selects RX10 yX10_write yX10_write, Cond.initialized RX10, Cond.code yX10_write cX10_write 6 none, Cond.fieldLink RX10 15 "FieldScribe$Text" "length" "I", Cond.fieldLink RX10 9 "FieldScribe$Text" "signs" "[C", Cond.constantLong RX10 23 (1000000000)]
def wsL_setField_r2 : List Cond := [Cond.constantLong RX10 25 (48), Cond.constantLong RX10 27 (10), Cond.methodLink RX11 156 yX4_set, Cond.instanceMethod yX4_set, Cond.selects RX4 yX4_set yX4_set, Cond.initialized RX4, Cond.code yX4_set cX4_set 3 none, Cond.fieldLink RX4 34 "FieldScribe$Page" "count" "I", Cond.methodLink RX4 38 Lib.Math.max.name, Cond.static Lib.Math.max.name, Cond.initialized "java/lang/Math", Cond.code Lib.Math.max.name Lib.Math.max.code 2 (some .int), Cond.methodLink RX4 26 yX4_get, Cond.instanceMethod yX4_get, Cond.selects RX4 yX4_get yX4_get, Cond.code yX4_get cX4_get 2 (some (.object "FieldScribe$Text")), Cond.fieldLink RX4 18 "FieldScribe$Page" "pieces" "[LFieldScribe$Text;", Cond.fieldLink RX4 12 "FieldScribe$Page" "whole" "LFieldScribe$Text;", Cond.methodLink RX4 30 yX10_copy, Cond.instanceMethod yX10_copy, Cond.selects RX10 yX10_copy yX10_copy, Cond.code yX10_copy cX10_copy 3 none, Cond.methodLink RX4 44 yX4_join, Cond.instanceMethod yX4_join]
def wsL_setField_r3 : List Cond := [Cond.selects RX4 yX4_join yX4_join, Cond.code yX4_join cX4_join 3 none, Cond.fieldLink RX4 22 "FieldScribe$Page" "separator" "C", Cond.methodLink RX4 51 yX10_clear, Cond.instanceMethod yX10_clear, Cond.selects RX10 yX10_clear yX10_clear, Cond.code yX10_clear cX10_clear 1 none, Cond.methodLink RX4 54 yX10_put, Cond.instanceMethod yX10_put, Cond.selects RX10 yX10_put yX10_put, Cond.code yX10_put cX10_put 2 none, Cond.methodLink RX4 58 yX10_add, Cond.instanceMethod yX10_add, Cond.selects RX10 yX10_add yX10_add, Cond.code yX10_add cX10_add 4 none, Cond.methodLink RX10 19 yX10_put, Cond.methodLink RX4 48 yX4_cut, Cond.instanceMethod yX4_cut, Cond.selects RX4 yX4_cut yX4_cut, Cond.code yX4_cut cX4_cut 3 none, Cond.methodLink RX4 64 yX10_at, Cond.instanceMethod yX10_at, Cond.selects RX10 yX10_at yX10_at, Cond.code yX10_at cX10_at 2 (some .char)]
def wsL_setField : List Cond := .codeWith yL_setField cL_setField 5 (some .int) [(0, 10, 13, 21)] :: ((wsL_setField_r1 ++ (wsL_setField_r2 ++ wsL_setField_r3)) ++ wsX110 ++ wsX40 ++ wsX100 ++ (vx_atS RX11 87 "java/lang/IndexOutOfBoundsException" ["java/lang/RuntimeException", "java/lang/Exception"]).filter goodWord)
def wsL_number_r1 : List Cond := [Cond.classLink RL 21 "java/lang/IndexOutOfBoundsException", Cond.methodLink RL 34 yX11_number, Cond.instanceMethod yX11_number, Cond.selects RX11 yX11_number yX11_number, Cond.initialized RX11, Cond.code yX11_number cX11_number 2 (some .int), Cond.fieldLink RX11 19 "FieldScribe" "page" "LFieldScribe$Page;", Cond.methodLink RX11 171 yX11_requireField, Cond.static yX11_requireField, Cond.code yX11_requireField cX11_requireField 1 none, Cond.classLink RX11 83 "java/lang/IndexOutOfBoundsException", Cond.initialized "java/lang/IndexOutOfBoundsException", Cond.methodLink RX11 88 yX11_isField, Cond.static yX11_isField, Cond.code yX11_isField cX11_isField 1 (some .boolean), Cond.methodLink RX11 177 yX4_get, Cond.instanceMethod yX4_get, Cond.selects RX4 yX4_get yX4_get, Cond.initialized RX4, Cond.code yX4_get cX4_get 2 (some (.object "FieldScribe$Text")), Cond.fieldLink RX4 18 "FieldScribe$Page" "pieces" "[LFieldScribe$Text;", Cond.fieldLink RX4 12 "FieldScribe$Page" "whole" "LFieldScribe$Text;", Cond.methodLink RX11 180 yX10_asNumber, Cond.instanceMethod yX10_asNumber]
def wsL_number_r2 : List Cond := [Cond.selects RX10 yX10_asNumber yX10_asNumber, Cond.initialized RX10, Cond.code yX10_asNumber cX10_asNumber 5 (some .int), Cond.fieldLink RX10 9 "FieldScribe$Text" "signs" "[C", Cond.methodLink RX10 29 yX10_numberLength, Cond.instanceMethod yX10_numberLength, Cond.selects RX10 yX10_numberLength yX10_numberLength, Cond.code yX10_numberLength cX10_numberLength 3 (some .int), Cond.fieldLink RX10 15 "FieldScribe$Text" "length" "I", Cond.methodLink RX10 33 yX10_at, Cond.instanceMethod yX10_at, Cond.selects RX10 yX10_at yX10_at, Cond.code yX10_at cX10_at 2 (some .char)]
def wsL_number : List Cond := .codeWith yL_number cL_number 4 (some .int) [(0, 9, 12, 21)] :: ((wsL_number_r1 ++ wsL_number_r2) ++ wsX110 ++ wsX40 ++ wsX100 ++ (vx_atS RX11 87 "java/lang/IndexOutOfBoundsException" ["java/lang/RuntimeException", "java/lang/Exception"]).filter goodWord)
def wsL_character_r1 : List Cond := [Cond.classLink RL 21 "java/lang/IndexOutOfBoundsException", Cond.methodLink RL 37 yX11_character, Cond.instanceMethod yX11_character, Cond.selects RX11 yX11_character yX11_character, Cond.initialized RX11, Cond.code yX11_character cX11_character 3 (some .char), Cond.fieldLink RX11 19 "FieldScribe" "page" "LFieldScribe$Page;", Cond.methodLink RX11 171 yX11_requireField, Cond.static yX11_requireField, Cond.code yX11_requireField cX11_requireField 1 none, Cond.classLink RX11 83 "java/lang/IndexOutOfBoundsException", Cond.initialized "java/lang/IndexOutOfBoundsException", Cond.methodLink RX11 88 yX11_isField, Cond.static yX11_isField, Cond.code yX11_isField cX11_isField 1 (some .boolean), Cond.methodLink RX11 177 yX4_get, Cond.instanceMethod yX4_get, Cond.selects RX4 yX4_get yX4_get, Cond.initialized RX4, Cond.code yX4_get cX4_get 2 (some (.object "FieldScribe$Text")), Cond.fieldLink RX4 18 "FieldScribe$Page" "pieces" "[LFieldScribe$Text;", Cond.fieldLink RX4 12 "FieldScribe$Page" "whole" "LFieldScribe$Text;", Cond.methodLink RX11 183 yX11_signAt, Cond.static yX11_signAt]
def wsL_character_r2 : List Cond := [Cond.code yX11_signAt cX11_signAt 2 (some .char), Cond.methodLink RX11 188 yX11_requirePlace, Cond.static yX11_requirePlace, Cond.code yX11_requirePlace cX11_requirePlace 2 none, Cond.methodLink RX11 217 yX10_at, Cond.instanceMethod yX10_at, Cond.selects RX10 yX10_at yX10_at, Cond.initialized RX10, Cond.code yX10_at cX10_at 2 (some .char), Cond.fieldLink RX10 15 "FieldScribe$Text" "length" "I", Cond.fieldLink RX10 9 "FieldScribe$Text" "signs" "[C"]
def wsL_character : List Cond := .codeWith yL_character cL_character 5 (some .int) [(0, 10, 13, 21)] :: ((wsL_character_r1 ++ wsL_character_r2) ++ wsX110 ++ wsX40 ++ wsX100 ++ (vx_atS RX11 87 "java/lang/IndexOutOfBoundsException" ["java/lang/RuntimeException", "java/lang/Exception"]).filter goodWord)
def wsL_row : List Cond := .codeWith yL_row cL_row 4 (some .int) [(0, 9, 12, 21)] :: ([.classLink RL 21 "java/lang/IndexOutOfBoundsException", .methodLink RL 41 yX11_row, .instanceMethod yX11_row, .selects RX11 yX11_row yX11_row, .initialized RX11, .code yX11_row cX11_row 2 (some .int), .fieldLink RX11 26 "FieldScribe" "table" "LFieldScribe$Table;", .methodLink RX11 188 yX11_requirePlace, .static yX11_requirePlace, .code yX11_requirePlace cX11_requirePlace 2 none, .classLink RX11 83 "java/lang/IndexOutOfBoundsException", .initialized "java/lang/IndexOutOfBoundsException", .methodLink RX11 192 yX9_get, .instanceMethod yX9_get, .selects RX9 yX9_get yX9_get, .initialized RX9, .code yX9_get cX9_get 2 (some (.object "FieldScribe$Row")), .fieldLink RX9 11 "FieldScribe$Table" "all" "[LFieldScribe$Row;"] ++ wsX110 ++ wsX90 ++ wsX60 ++ (vx_atS RX11 87 "java/lang/IndexOutOfBoundsException" ["java/lang/RuntimeException", "java/lang/Exception"]).filter goodWord)
def wsL_key_r1 : List Cond := [Cond.classLink RL 21 "java/lang/IndexOutOfBoundsException", Cond.methodLink RL 44 yX11_key, Cond.instanceMethod yX11_key, Cond.selects RX11 yX11_key yX11_key, Cond.initialized RX11, Cond.code yX11_key cX11_key 3 (some .char), Cond.fieldLink RX11 26 "FieldScribe" "table" "LFieldScribe$Table;", Cond.methodLink RX11 188 yX11_requirePlace, Cond.static yX11_requirePlace, Cond.code yX11_requirePlace cX11_requirePlace 2 none, Cond.classLink RX11 83 "java/lang/IndexOutOfBoundsException", Cond.initialized "java/lang/IndexOutOfBoundsException", Cond.methodLink RX11 192 yX9_get, Cond.instanceMethod yX9_get, Cond.selects RX9 yX9_get yX9_get, Cond.initialized RX9, Cond.code yX9_get cX9_get 2 (some (.object "FieldScribe$Row")), Cond.fieldLink RX9 11 "FieldScribe$Table" "all" "[LFieldScribe$Row;", Cond.methodLink RX11 183 yX11_signAt, Cond.static yX11_signAt, Cond.code yX11_signAt cX11_signAt 2 (some .char), Cond.methodLink RX11 217 yX10_at, Cond.instanceMethod yX10_at, Cond.selects RX10 yX10_at yX10_at]
def wsL_key_r2 : List Cond := [Cond.initialized RX10, Cond.code yX10_at cX10_at 2 (some .char), Cond.fieldLink RX10 15 "FieldScribe$Text" "length" "I", Cond.fieldLink RX10 9 "FieldScribe$Text" "signs" "[C"]
def wsL_key : List Cond := .codeWith yL_key cL_key 5 (some .int) [(0, 10, 13, 21)] :: ((wsL_key_r1 ++ wsL_key_r2) ++ wsX110 ++ wsX90 ++ wsX60 ++ wsX100 ++ (vx_atS RX11 87 "java/lang/IndexOutOfBoundsException" ["java/lang/RuntimeException", "java/lang/Exception"]).filter goodWord)
def wsL_line_r1 : List Cond := [Cond.classLink RL 21 "java/lang/IndexOutOfBoundsException", Cond.methodLink RL 47 yX11_line, Cond.instanceMethod yX11_line, Cond.selects RX11 yX11_line yX11_line, Cond.initialized RX11, Cond.code yX11_line cX11_line 3 (some .char), Cond.fieldLink RX11 33 "FieldScribe" "printout" "LFieldScribe$Printout;", Cond.methodLink RX11 188 yX11_requirePlace, Cond.static yX11_requirePlace, Cond.code yX11_requirePlace cX11_requirePlace 2 none, Cond.classLink RX11 83 "java/lang/IndexOutOfBoundsException", Cond.initialized "java/lang/IndexOutOfBoundsException", Cond.methodLink RX11 204 yX5_get, Cond.instanceMethod yX5_get, Cond.selects RX5 yX5_get yX5_get, Cond.initialized RX5, Cond.code yX5_get cX5_get 3 (some (.object "FieldScribe$Text")), Cond.fieldLink RX5 18 "FieldScribe$Printout" "start" "I", Cond.fieldLink RX5 11 "FieldScribe$Printout" "ring" "[LFieldScribe$Text;", Cond.methodLink RX11 183 yX11_signAt, Cond.static yX11_signAt, Cond.code yX11_signAt cX11_signAt 2 (some .char), Cond.methodLink RX11 217 yX10_at, Cond.instanceMethod yX10_at]
def wsL_line_r2 : List Cond := [Cond.selects RX10 yX10_at yX10_at, Cond.initialized RX10, Cond.code yX10_at cX10_at 2 (some .char), Cond.fieldLink RX10 15 "FieldScribe$Text" "length" "I", Cond.fieldLink RX10 9 "FieldScribe$Text" "signs" "[C"]
def wsL_line : List Cond := .codeWith yL_line cL_line 5 (some .int) [(0, 10, 13, 21)] :: ((wsL_line_r1 ++ wsL_line_r2) ++ wsX110 ++ wsX50 ++ wsX100 ++ (vx_atS RX11 87 "java/lang/IndexOutOfBoundsException" ["java/lang/RuntimeException", "java/lang/Exception"]).filter goodWord)
def wsL_law0_r1 : List Cond := [Cond.classLink RL 8 RX11, Cond.instantiable RX11 9, Cond.initialized RX11, Cond.classLink RL 51 RX12, Cond.instantiable RX12 34, Cond.initialized RX12, Cond.arrayClass .long, Cond.methodLink RL 50 yX11_init, Cond.instanceMethod yX11_init, Cond.code yX11_init cX11_init 1 none, Cond.methodLink RX11 3 objectInit, Cond.instanceMethod objectInit, Cond.code objectInit ⟨#[0xb1]⟩ 1 none, Cond.classLink RX11 9 RJx4a65c, Cond.instantiable RJx4a65c 3, Cond.initialized RJx4a65c, Cond.fieldLink RX11 12 "FieldScribe" "program" "Ljava/util/ArrayList;", Cond.classLink RX11 16 RX4, Cond.instantiable RX4 5, Cond.initialized RX4, Cond.fieldLink RX11 19 "FieldScribe" "page" "LFieldScribe$Page;", Cond.classLink RX11 23 RX9, Cond.instantiable RX9 2, Cond.initialized RX9]
def wsL_law0_r2 : List Cond := [Cond.fieldLink RX11 26 "FieldScribe" "table" "LFieldScribe$Table;", Cond.classLink RX11 30 RX5, Cond.instantiable RX5 3, Cond.initialized RX5, Cond.fieldLink RX11 33 "FieldScribe" "printout" "LFieldScribe$Printout;", Cond.classLink RX11 37 RX8, Cond.instantiable RX8 1, Cond.initialized RX8, Cond.fieldLink RX11 40 "FieldScribe" "machine" "LFieldScribe$StackMachine;", Cond.classLink RX11 44 RX10, Cond.instantiable RX10 2, Cond.initialized RX10, Cond.fieldLink RX11 47 "FieldScribe" "typed" "LFieldScribe$Text;", Cond.fieldLink RX11 51 "FieldScribe" "value" "LFieldScribe$Text;", Cond.methodLink RX11 11 yJx4a65c_init_da8c8, Cond.instanceMethod yJx4a65c_init_da8c8, Cond.code yJx4a65c_init_da8c8 cJx4a65c_init_da8c8 1 none, Cond.fieldLink RJx4a65c 39 "java/util/ArrayList" "DEFAULTCAPACITY_EMPTY_ELEMENTDATA" "[Ljava/lang/Object;", Cond.fieldLink RJx4a65c 9 "java/util/ArrayList" "elementData" "[Ljava/lang/Object;", Cond.methodLink RJx4a65c 1 yJxc12de_init_da8c8, Cond.instanceMethod yJxc12de_init_da8c8, Cond.initialized RJxc12de, Cond.code yJxc12de_init_da8c8 cJxc12de_init_da8c8 1 none, Cond.fieldLink RJxc12de 7 "java/util/AbstractList" "modCount" "I"]
def wsL_law0_r3 : List Cond := [Cond.methodLink RJxc12de 1 yJxa1e45_init_da8c8, Cond.instanceMethod yJxa1e45_init_da8c8, Cond.initialized RJxa1e45, Cond.code yJxa1e45_init_da8c8 cJxa1e45_init_da8c8 1 none, Cond.methodLink RJxa1e45 1 objectInit, Cond.methodLink RX11 18 yX4_init, Cond.instanceMethod yX4_init, Cond.code yX4_init cX4_init 2 none, Cond.methodLink RX4 3 objectInit, Cond.classLink RX4 9 RX10, Cond.fieldLink RX4 12 "FieldScribe$Page" "whole" "LFieldScribe$Text;", Cond.fieldLink RX4 18 "FieldScribe$Page" "pieces" "[LFieldScribe$Text;", Cond.fieldLink RX4 22 "FieldScribe$Page" "separator" "C", Cond.instanceMethod yX10_init, Cond.code yX10_init cX10_init 1 none, Cond.methodLink RX10 3 objectInit, Cond.arrayClass .char, Cond.fieldLink RX10 9 "FieldScribe$Text" "signs" "[C", Cond.methodLink RX11 25 yX9_init, Cond.instanceMethod yX9_init, Cond.code yX9_init cX9_init 2 none, Cond.methodLink RX9 3 objectInit, Cond.classLink RX9 9 RX6, Cond.fieldLink RX9 11 "FieldScribe$Table" "all" "[LFieldScribe$Row;"]
def wsL_law0_r4 : List Cond := [Cond.instantiable RX6 2, Cond.initialized RX6, Cond.instanceMethod yX6_init, Cond.code yX6_init cX6_init 1 none, Cond.methodLink RX6 1 objectInit, Cond.classLink RX6 7 RX10, Cond.fieldLink RX6 10 "FieldScribe$Row" "name" "LFieldScribe$Text;", Cond.methodLink RX11 32 yX5_init, Cond.instanceMethod yX5_init, Cond.code yX5_init cX5_init 2 none, Cond.methodLink RX5 3 objectInit, Cond.classLink RX5 9 RX10, Cond.fieldLink RX5 11 "FieldScribe$Printout" "ring" "[LFieldScribe$Text;", Cond.methodLink RX11 39 yX8_init, Cond.instanceMethod yX8_init, Cond.code yX8_init cX8_init 2 none, Cond.methodLink RX8 3 objectInit, Cond.classLink RX8 11 RX10, Cond.fieldLink RX8 13 "FieldScribe$StackMachine" "stack" "[LFieldScribe$Text;", Cond.methodLink RL 53 yX12_init, Cond.instanceMethod yX12_init, Cond.code yX12_init cX12_init 1 none, Cond.methodLink RX12 1 objectInit, Cond.fieldLink RX12 7 "FieldScribeModel" "separator" "I"]
def wsL_law0_r5 : List Cond := [Cond.arrayClass .int, Cond.fieldLink RX12 13 "FieldScribeModel" "record" "[I", Cond.fieldLink RX12 17 "FieldScribeModel" "begins" "[I", Cond.fieldLink RX12 20 "FieldScribeModel" "ends" "[I", Cond.fieldLink RX12 23 "FieldScribeModel" "typed" "[I", Cond.fieldLink RX12 26 "FieldScribeModel" "pattern" "[I", Cond.fieldLink RX12 29 "FieldScribeModel" "first" "[I", Cond.fieldLink RX12 32 "FieldScribeModel" "second" "[I", Cond.arrayClass .boolean, Cond.fieldLink RX12 35 "FieldScribeModel" "isOn" "[Z", Cond.fieldLink RX12 39 "FieldScribeModel" "actions" "[I", Cond.fieldLink RX12 42 "FieldScribeModel" "kind" "[I", Cond.fieldLink RX12 45 "FieldScribeModel" "field" "[I", Cond.fieldLink RX12 48 "FieldScribeModel" "operation" "[I", Cond.fieldLink RX12 51 "FieldScribeModel" "x" "[I", Cond.fieldLink RX12 54 "FieldScribeModel" "y" "[I", Cond.fieldLink RX12 57 "FieldScribeModel" "keys" "[I", Cond.fieldLink RX12 60 "FieldScribeModel" "keyLength" "[I", Cond.fieldLink RX12 63 "FieldScribeModel" "sums" "[I", Cond.fieldLink RX12 66 "FieldScribeModel" "printed" "[I", Cond.fieldLink RX12 69 "FieldScribeModel" "printedLength" "[I", Cond.fieldLink RX12 72 "FieldScribeModel" "value" "[I", Cond.fieldLink RX12 75 "FieldScribeModel" "made" "[I", Cond.fieldLink RX12 78 "FieldScribeModel" "digits" "[I"]
def wsL_law0_r6 : List Cond := [Cond.methodLink RL 54 yL_rule, Cond.static yL_rule, Cond.initialized RL, Cond.codeWith yL_rule cL_rule 6 (some .int) [(0, 12, 15, 13), (0, 12, 19, 15)], Cond.classLink RL 13 "java/lang/IllegalArgumentException", Cond.classLink RL 15 "java/lang/IllegalStateException", Cond.methodLink RL 7 yX11_rule, Cond.instanceMethod yX11_rule, Cond.selects RX11 yX11_rule yX11_rule, Cond.code yX11_rule cX11_rule 4 (some .int), Cond.classLink RX11 58 "java/lang/IllegalArgumentException", Cond.initialized "java/lang/IllegalArgumentException", Cond.classLink RX11 69 "java/lang/IllegalStateException", Cond.initialized "java/lang/IllegalStateException", Cond.classLink RX11 74 RX7, Cond.instantiable RX7 5, Cond.initialized RX7, Cond.methodLink RX11 54 yX11_isPattern, Cond.static yX11_isPattern, Cond.code yX11_isPattern cX11_isPattern 3 (some .boolean), Cond.methodLink RX11 88 yX11_isField, Cond.static yX11_isField, Cond.code yX11_isField cX11_isField 1 (some .boolean), Cond.methodLink RX11 208 yX11_isNumber]
def wsL_law0_r7 : List Cond := [Cond.static yX11_isNumber, Cond.code yX11_isNumber cX11_isNumber 1 (some .boolean), Cond.methodLink RX11 65 yJx4a65c_size_8abf5, Cond.instanceMethod yJx4a65c_size_8abf5, Cond.selects RJx4a65c yJx4a65c_size_8abf5 yJx4a65c_size_8abf5, Cond.code yJx4a65c_size_8abf5 cJx4a65c_size_8abf5 1 (some .int), Cond.fieldLink RJx4a65c 48 "java/util/ArrayList" "size" "I", Cond.methodLink RX11 76 yX7_init, Cond.instanceMethod yX7_init, Cond.code yX7_init cX7_init 4 none, Cond.methodLink RX7 3 objectInit, Cond.classLink RX7 9 RJx4a65c, Cond.fieldLink RX7 12 "FieldScribe$Rule" "actions" "Ljava/util/ArrayList;", Cond.fieldLink RX7 18 "FieldScribe$Rule" "pattern" "I", Cond.fieldLink RX7 22 "FieldScribe$Rule" "a" "I", Cond.fieldLink RX7 25 "FieldScribe$Rule" "b" "I", Cond.methodLink RX7 11 yJx4a65c_init_da8c8, Cond.methodLink RX11 79 yJx4a65c_add_9ea2d, Cond.instanceMethod yJx4a65c_add_9ea2d, Cond.selects RJx4a65c yJx4a65c_add_9ea2d yJx4a65c_add_9ea2d, Cond.code yJx4a65c_add_9ea2d cJx4a65c_add_9ea2d 2 (some .boolean), Cond.fieldLink RJx4a65c 63 "java/util/ArrayList" "modCount" "I", Cond.sameField "java/util/ArrayList" "java/util/AbstractList" "modCount" "I", Cond.methodLink RJx4a65c 131 yJx4a65c_add_72be8]
def wsL_law0_r8 : List Cond := [Cond.instanceMethod yJx4a65c_add_72be8, Cond.selects RJx4a65c yJx4a65c_add_72be8 yJx4a65c_add_72be8, Cond.code yJx4a65c_add_72be8 cJx4a65c_add_72be8 4 none, Cond.methodLink RJx4a65c 129 yJx4a65c_grow_d5877, Cond.instanceMethod yJx4a65c_grow_d5877, Cond.selects RJx4a65c yJx4a65c_grow_d5877 yJx4a65c_grow_d5877, Cond.code yJx4a65c_grow_d5877 cJx4a65c_grow_d5877 1 (some (.array (.object "java/lang/Object"))), Cond.methodLink RJx4a65c 69 yJx4a65c_grow_92f84, Cond.instanceMethod yJx4a65c_grow_92f84, Cond.selects RJx4a65c yJx4a65c_grow_92f84 yJx4a65c_grow_92f84, Cond.code yJx4a65c_grow_92f84 cJx4a65c_grow_92f84 4 (some (.array (.object "java/lang/Object"))), Cond.methodLink RJx4a65c 79 Lib.Math.max.name, Cond.static Lib.Math.max.name, Cond.initialized "java/lang/Math", Cond.code Lib.Math.max.name Lib.Math.max.code 2 (some .int), Cond.classLink RJx4a65c 7 "java/lang/Object", Cond.methodLink RJx4a65c 73 yJ8_newLength_cabcc, Cond.static yJ8_newLength_cabcc, Cond.initialized RJ8, Cond.code yJ8_newLength_cabcc cJ8_newLength_cabcc 4 (some .int), Cond.methodLink RJ8 194 Lib.Math.max.name, Cond.constant RJ8 200 (2147483639), Cond.methodLink RJ8 201 yJ8_hugeLength_7cf53, Cond.static yJ8_hugeLength_7cf53]
def wsL_law0_r9 : List Cond := [Cond.code yJ8_hugeLength_7cf53 cJ8_hugeLength_7cf53 3 (some .int), Cond.methodLink RJx4a65c 66 yJ7_copyOf_1904c, Cond.static yJ7_copyOf_1904c, Cond.initialized RJ7, Cond.code yJ7_copyOf_1904c cJ7_copyOf_1904c 2 (some (.array (.object "java/lang/Object"))), Cond.methodLink RJ7 86 ⟨"java/lang/Object", "getClass", "()Ljava/lang/Class;"⟩, Cond.selects "[Ljava/lang/Object;" ⟨"java/lang/Object", "getClass", "()Ljava/lang/Class;"⟩ ⟨"java/lang/Object", "getClass", "()Ljava/lang/Class;"⟩, Cond.instanceMethod ⟨"java/lang/Object", "getClass", "()Ljava/lang/Class;"⟩, Cond.native ⟨"java/lang/Object", "getClass", "()Ljava/lang/Class;"⟩, Cond.methodLink RJ7 300 yJ7_copyOf_6403c, Cond.static yJ7_copyOf_6403c, Cond.code yJ7_copyOf_6403c cJ7_copyOf_6403c 4 (some (.array (.object "java/lang/Object"))), Cond.classLink RJ7 110 "[Ljava/lang/Object;", Cond.classLink RJ7 2 "java/lang/Object", Cond.methodLink RJ7 304 Lib.Math.min.name, Cond.static Lib.Math.min.name, Cond.code Lib.Math.min.name Lib.Math.min.code 2 (some .int), Cond.methodLink RJ7 150 arraycopyName, Cond.native arraycopyName, Cond.static arraycopyName, Cond.initialized "java/lang/System", Cond.methodLink RL 59 yX12_rule, Cond.instanceMethod yX12_rule, Cond.selects RX12 yX12_rule yX12_rule]
def wsL_law0_r10 : List Cond := [Cond.code yX12_rule cX12_rule 5 (some .int), Cond.fieldLink RX12 168 "FieldScribeModel" "rules" "I", Cond.methodLink RX12 84 yX12_isIn, Cond.static yX12_isIn, Cond.code yX12_isIn cX12_isIn 3 (some .boolean), Cond.methodLink RX12 171 yX12_fails, Cond.instanceMethod yX12_fails, Cond.selects RX12 yX12_fails yX12_fails, Cond.code yX12_fails cX12_fails 2 (some .boolean), Cond.fieldLink RX12 81 "FieldScribeModel" "thrown" "I", Cond.methodLink RL 60 yX12_thrown, Cond.instanceMethod yX12_thrown, Cond.selects RX12 yX12_thrown yX12_thrown, Cond.code yX12_thrown cX12_thrown 1 (some .int), Cond.methodLink RL 64 yL_act, Cond.static yL_act, Cond.codeWith yL_act cL_act 9 (some .int) [(0, 18, 21, 21), (0, 18, 25, 13), (0, 18, 29, 15)], Cond.classLink RL 21 "java/lang/IndexOutOfBoundsException", Cond.methodLink RL 17 yX11_act, Cond.instanceMethod yX11_act, Cond.selects RX11 yX11_act yX11_act, Cond.code yX11_act cX11_act 8 (some .int), Cond.classLink RX11 83 "java/lang/IndexOutOfBoundsException", Cond.initialized "java/lang/IndexOutOfBoundsException"]
def wsL_law0_r11 : List Cond := [Cond.classLink RX11 74 "FieldScribe$Rule", Cond.classLink RX11 108 RX0, Cond.instantiable RX0 4, Cond.initialized RX0, Cond.methodLink RX11 94 yX11_isOperand, Cond.static yX11_isOperand, Cond.code yX11_isOperand cX11_isOperand 1 (some .boolean), Cond.methodLink RX11 99 yJx4a65c_get_915e3, Cond.instanceMethod yJx4a65c_get_915e3, Cond.selects RJx4a65c yJx4a65c_get_915e3 yJx4a65c_get_915e3, Cond.code yJx4a65c_get_915e3 cJx4a65c_get_915e3 2 (some (.object "java/lang/Object")), Cond.methodLink RJx4a65c 118 yJ15_checkIndex_7cf53, Cond.static yJ15_checkIndex_7cf53, Cond.initialized RJ15, Cond.code yJ15_checkIndex_7cf53 cJ15_checkIndex_7cf53 2 (some .int), Cond.methodLink RJ15 105 yJ3_checkIndex_8e157, Cond.static yJ3_checkIndex_8e157, Cond.initialized RJ3, Cond.code yJ3_checkIndex_8e157 cJ3_checkIndex_8e157 3 (some .int), Cond.methodLink RJx4a65c 123 yJx4a65c_elementData_915e3, Cond.instanceMethod yJx4a65c_elementData_915e3, Cond.selects RJx4a65c yJx4a65c_elementData_915e3 yJx4a65c_elementData_915e3, Cond.code yJx4a65c_elementData_915e3 cJx4a65c_elementData_915e3 2 (some (.object "java/lang/Object")), Cond.methodLink RX11 110 yX11_treeOf]
def wsL_law0_r12 : List Cond := [Cond.static yX11_treeOf, Cond.code yX11_treeOf cX11_treeOf 3 (some (.object "FieldScribe$Node")), Cond.classLink RX11 259 RX2, Cond.instantiable RX2 1, Cond.initialized RX2, Cond.classLink RX11 263 RX1, Cond.instantiable RX1 4, Cond.initialized RX1, Cond.methodLink RX11 261 yX2_init, Cond.instanceMethod yX2_init, Cond.code yX2_init cX2_init 2 none, Cond.fieldLink RX2 7 "FieldScribe$Leaf" "operand" "I", Cond.instanceMethod yX3_init, Cond.initialized RX3, Cond.code yX3_init cX3_init 1 none, Cond.methodLink RX3 1 objectInit, Cond.methodLink RX11 265 yX1_init, Cond.instanceMethod yX1_init, Cond.code yX1_init cX1_init 4 none, Cond.classLink RX1 7 RX10, Cond.fieldLink RX1 10 "FieldScribe$Fork" "second" "LFieldScribe$Text;", Cond.fieldLink RX1 16 "FieldScribe$Fork" "operation" "I", Cond.fieldLink RX1 20 "FieldScribe$Fork" "left" "LFieldScribe$Leaf;", Cond.fieldLink RX1 24 "FieldScribe$Fork" "right" "LFieldScribe$Leaf;"]
def wsL_law0_r13 : List Cond := [Cond.methodLink RX11 114 yX11_codeOf, Cond.static yX11_codeOf, Cond.code yX11_codeOf cX11_codeOf 3 (some (.array .int)), Cond.methodLink RX11 118 yX0_init, Cond.instanceMethod yX0_init, Cond.code yX0_init cX0_init 5 none, Cond.methodLink RX0 1 objectInit, Cond.fieldLink RX0 7 "FieldScribe$Action" "kind" "I", Cond.fieldLink RX0 13 "FieldScribe$Action" "field" "I", Cond.fieldLink RX0 16 "FieldScribe$Action" "tree" "LFieldScribe$Node;", Cond.fieldLink RX0 20 "FieldScribe$Action" "code" "[I", Cond.methodLink RL 67 yX12_act, Cond.instanceMethod yX12_act, Cond.selects RX12 yX12_act yX12_act, Cond.code yX12_act cX12_act 10 (some .int), Cond.methodLink RX12 174 yX12_isField, Cond.static yX12_isField, Cond.code yX12_isField cX12_isField 1 (some .boolean), Cond.methodLink RX12 177 yX12_isOperand, Cond.static yX12_isOperand, Cond.code yX12_isOperand cX12_isOperand 1 (some .boolean), Cond.methodLink RL 68 yX11_useStack, Cond.instanceMethod yX11_useStack, Cond.selects RX11 yX11_useStack yX11_useStack]
def wsL_law0_r14 : List Cond := [Cond.code yX11_useStack cX11_useStack 2 none, Cond.fieldLink RX11 121 "FieldScribe" "stacked" "Z", Cond.methodLink RL 72 yX12_useStack, Cond.instanceMethod yX12_useStack, Cond.selects RX12 yX12_useStack yX12_useStack, Cond.code yX12_useStack cX12_useStack 2 none, Cond.methodLink RL 73 yL_setSeparator, Cond.static yL_setSeparator, Cond.codeWith yL_setSeparator cL_setSeparator 4 (some .int) [(0, 9, 12, 13)], Cond.methodLink RL 23 yX11_setSeparator, Cond.instanceMethod yX11_setSeparator, Cond.selects RX11 yX11_setSeparator yX11_setSeparator, Cond.code yX11_setSeparator cX11_setSeparator 2 (some .int), Cond.methodLink RX11 125 yX11_requireCode, Cond.static yX11_requireCode, Cond.code yX11_requireCode cX11_requireCode 1 none, Cond.methodLink RX11 129 yX11_signOf, Cond.static yX11_signOf, Cond.code yX11_signOf cX11_signOf 1 (some .char), Cond.methodLink RX11 137 yX4_cut, Cond.instanceMethod yX4_cut, Cond.selects RX4 yX4_cut yX4_cut, Cond.code yX4_cut cX4_cut 3 none, Cond.fieldLink RX4 34 "FieldScribe$Page" "count" "I"]
def wsL_law0_r15 : List Cond := [Cond.methodLink RX4 51 yX10_clear, Cond.instanceMethod yX10_clear, Cond.selects RX10 yX10_clear yX10_clear, Cond.code yX10_clear cX10_clear 1 none, Cond.fieldLink RX10 15 "FieldScribe$Text" "length" "I", Cond.methodLink RX4 64 yX10_at, Cond.instanceMethod yX10_at, Cond.selects RX10 yX10_at yX10_at, Cond.code yX10_at cX10_at 2 (some .char), Cond.methodLink RX4 26 yX4_get, Cond.instanceMethod yX4_get, Cond.selects RX4 yX4_get yX4_get, Cond.code yX4_get cX4_get 2 (some (.object "FieldScribe$Text")), Cond.methodLink RX4 54 yX10_put, Cond.instanceMethod yX10_put, Cond.selects RX10 yX10_put yX10_put, Cond.code yX10_put cX10_put 2 none, Cond.methodLink RL 76 yX12_setSeparator, Cond.instanceMethod yX12_setSeparator, Cond.selects RX12 yX12_setSeparator yX12_setSeparator, Cond.code yX12_setSeparator cX12_setSeparator 2 (some .int), Cond.fieldLink RX12 88 "FieldScribeModel" "fields" "I", Cond.methodLink RX12 180 yX12_letter, Cond.static yX12_letter]
def wsL_law0_r16 : List Cond := [Cond.code yX12_letter cX12_letter 1 (some .int), Cond.methodLink RX12 97 yX12_cuts, Cond.instanceMethod yX12_cuts, Cond.selects RX12 yX12_cuts yX12_cuts, Cond.code yX12_cuts cX12_cuts 2 none, Cond.fieldLink RX12 91 "FieldScribeModel" "length" "I", Cond.methodLink RL 77 yL_type, Cond.static yL_type, Cond.codeWith yL_type cL_type 4 (some .int) [(0, 9, 12, 13), (0, 9, 15, 15)], Cond.methodLink RL 27 yX11_type, Cond.instanceMethod yX11_type, Cond.selects RX11 yX11_type yX11_type, Cond.code yX11_type cX11_type 2 (some .int), Cond.methodLink RX11 149 yX10_put, Cond.methodLink RL 79 yX12_type, Cond.instanceMethod yX12_type, Cond.selects RX12 yX12_type yX12_type, Cond.code yX12_type cX12_type 2 (some .int), Cond.fieldLink RX12 183 "FieldScribeModel" "many" "I", Cond.methodLink RL 80 yX11_end, Cond.instanceMethod yX11_end, Cond.selects RX11 yX11_end yX11_end, Cond.code yX11_end cX11_end 5 (some .int), Cond.methodLink RX11 156 yX4_set]
def wsL_law0_r17 : List Cond := [Cond.instanceMethod yX4_set, Cond.selects RX4 yX4_set yX4_set, Cond.code yX4_set cX4_set 3 none, Cond.methodLink RX4 38 Lib.Math.max.name, Cond.methodLink RX4 30 yX10_copy, Cond.instanceMethod yX10_copy, Cond.selects RX10 yX10_copy yX10_copy, Cond.code yX10_copy cX10_copy 3 none, Cond.methodLink RX4 44 yX4_join, Cond.instanceMethod yX4_join, Cond.selects RX4 yX4_join yX4_join, Cond.code yX4_join cX4_join 3 none, Cond.methodLink RX4 58 yX10_add, Cond.instanceMethod yX10_add, Cond.selects RX10 yX10_add yX10_add, Cond.code yX10_add cX10_add 4 none, Cond.methodLink RX10 19 yX10_put, Cond.methodLink RX4 48 yX4_cut, Cond.methodLink RX11 160 yX10_clear, Cond.methodLink RX11 163 yX7_isTrue, Cond.instanceMethod yX7_isTrue, Cond.selects RX7 yX7_isTrue yX7_isTrue, Cond.code yX7_isTrue cX7_isTrue 2 (some .boolean), Cond.methodLink RX7 28 yX4_get]
def wsL_law0_r18 : List Cond := [Cond.methodLink RX7 34 yX10_isSameAs, Cond.instanceMethod yX10_isSameAs, Cond.selects RX10 yX10_isSameAs yX10_isSameAs, Cond.code yX10_isSameAs cX10_isSameAs 2 (some .boolean), Cond.methodLink RX10 37 yX10_isNumeric, Cond.instanceMethod yX10_isNumeric, Cond.selects RX10 yX10_isNumeric yX10_isNumeric, Cond.code yX10_isNumeric cX10_isNumeric 1 (some .boolean), Cond.methodLink RX10 29 yX10_numberLength, Cond.instanceMethod yX10_numberLength, Cond.selects RX10 yX10_numberLength yX10_numberLength, Cond.code yX10_numberLength cX10_numberLength 3 (some .int), Cond.methodLink RX10 41 yX10_asNumber, Cond.instanceMethod yX10_asNumber, Cond.selects RX10 yX10_asNumber yX10_asNumber, Cond.code yX10_asNumber cX10_asNumber 5 (some .int), Cond.methodLink RX10 33 yX10_at, Cond.methodLink RX7 40 yX10_isLessThan, Cond.instanceMethod yX10_isLessThan, Cond.selects RX10 yX10_isLessThan yX10_isLessThan, Cond.code yX10_isLessThan cX10_isLessThan 3 (some .boolean), Cond.methodLink RX10 44 yX10_firstDifference, Cond.instanceMethod yX10_firstDifference, Cond.selects RX10 yX10_firstDifference yX10_firstDifference]
def wsL_law0_r19 : List Cond := [Cond.code yX10_firstDifference cX10_firstDifference 3 (some .int), Cond.static yX11_rankOf, Cond.code yX11_rankOf cX11_rankOf 1 (some .int), Cond.methodLink RX7 44 yX7_isInRange, Cond.instanceMethod yX7_isInRange, Cond.selects RX7 yX7_isInRange yX7_isInRange, Cond.code yX7_isInRange cX7_isInRange 2 (some .boolean), Cond.fieldLink RX7 47 "FieldScribe$Rule" "open" "Z", Cond.methodLink RX11 167 yX11_performAll, Cond.instanceMethod yX11_performAll, Cond.selects RX11 yX11_performAll yX11_performAll, Cond.code yX11_performAll cX11_performAll 3 (some .boolean), Cond.classLink RX11 108 "FieldScribe$Action", Cond.methodLink RX11 220 yX11_perform, Cond.instanceMethod yX11_perform, Cond.selects RX11 yX11_perform yX11_perform, Cond.code yX11_perform cX11_perform 3 (some .boolean), Cond.fieldLink RX11 205 "FieldScribe" "faultCount" "I", Cond.methodLink RX11 177 yX4_get, Cond.methodLink RX11 230 yX9_drop, Cond.instanceMethod yX9_drop, Cond.selects RX9 yX9_drop yX9_drop, Cond.code yX9_drop cX9_drop 5 none, Cond.fieldLink RX9 18 "FieldScribe$Table" "count" "I"]
def wsL_law0_r20 : List Cond := [Cond.methodLink RX9 36 yX9_find, Cond.instanceMethod yX9_find, Cond.selects RX9 yX9_find yX9_find, Cond.code yX9_find cX9_find 3 (some .int), Cond.methodLink RX9 22 yX9_get, Cond.instanceMethod yX9_get, Cond.selects RX9 yX9_get yX9_get, Cond.code yX9_get cX9_get 2 (some (.object "FieldScribe$Row")), Cond.methodLink RX9 30 yX10_hasSignsOf, Cond.instanceMethod yX10_hasSignsOf, Cond.selects RX10 yX10_hasSignsOf yX10_hasSignsOf, Cond.code yX10_hasSignsOf cX10_hasSignsOf 2 (some .boolean), Cond.methodLink RX11 238 yX8_run, Cond.instanceMethod yX8_run, Cond.selects RX8 yX8_run yX8_run, Cond.code yX8_run cX8_run 7 (some .int), Cond.methodLink RX8 18 yX4_load, Cond.instanceMethod yX4_load, Cond.selects RX4 yX4_load yX4_load, Cond.code yX4_load cX4_load 3 none, Cond.fieldLink RX4 71 "FieldScribe$Page" "number" "I", Cond.methodLink RX4 68 yX10_write, Cond.instanceMethod yX10_write, Cond.selects RX10 yX10_write yX10_write]
def wsL_law0_r21 : List Cond := [Cond.code yX10_write cX10_write 6 none, Cond.constantLong RX10 23 (1000000000), Cond.constantLong RX10 25 (48), Cond.constantLong RX10 27 (10), Cond.static yX11_combine, Cond.code yX11_combine cX11_combine 6 (some .int), Cond.methodLink RX11 268 yX10_add, Cond.methodLink RX11 180 yX10_asNumber, Cond.methodLink RX11 270 yX11_calculate, Cond.static yX11_calculate, Cond.code yX11_calculate cX11_calculate 5 (some .long), Cond.methodLink RX11 274 yX11_isInt, Cond.static yX11_isInt, Cond.code yX11_isInt cX11_isInt 2 (some .boolean), Cond.constantLong RX11 280 (-2147483648), Cond.constantLong RX11 282 (2147483647), Cond.methodLink RX11 174 yX10_write, Cond.methodLink RX8 28 yX10_copy, Cond.methodLink RX11 246 ⟨"FieldScribe$Node", "find", "(LFieldScribe$Page;LFieldScribe$Text;)I"⟩, Cond.sameMethod "FieldScribe$Node" "FieldScribe$Node" "find" "(LFieldScribe$Page;LFieldScribe$Text;)I", Cond.selects RX1 ⟨"FieldScribe$Node", "find", "(LFieldScribe$Page;LFieldScribe$Text;)I"⟩ yX1_find, Cond.instanceMethod yX1_find, Cond.code yX1_find cX1_find 4 (some .int), Cond.methodLink RX1 27 yX2_find]
def wsL_law0_r22 : List Cond := [Cond.instanceMethod yX2_find, Cond.selects RX2 yX2_find yX2_find, Cond.code yX2_find cX2_find 3 (some .int), Cond.methodLink RX2 13 yX4_load, Cond.selects RX2 ⟨"FieldScribe$Node", "find", "(LFieldScribe$Page;LFieldScribe$Text;)I"⟩ yX2_find, Cond.methodLink RX11 252 yX9_grow, Cond.instanceMethod yX9_grow, Cond.selects RX9 yX9_grow yX9_grow, Cond.code yX9_grow cX9_grow 8 (some .int), Cond.methodLink RX9 40 yX10_copy, Cond.methodLink RX11 256 yX5_print, Cond.instanceMethod yX5_print, Cond.selects RX5 yX5_print yX5_print, Cond.code yX5_print cX5_print 2 none, Cond.fieldLink RX5 22 "FieldScribe$Printout" "count" "I", Cond.fieldLink RX5 18 "FieldScribe$Printout" "start" "I", Cond.methodLink RX5 25 yX5_get, Cond.instanceMethod yX5_get, Cond.selects RX5 yX5_get yX5_get, Cond.code yX5_get cX5_get 3 (some (.object "FieldScribe$Text")), Cond.methodLink RX5 29 yX10_copy, Cond.methodLink RL 83 yX12_end, Cond.instanceMethod yX12_end, Cond.selects RX12 yX12_end yX12_end]
def wsL_law0_r23 : List Cond := [Cond.code yX12_end cX12_end 4 (some .int), Cond.fieldLink RX12 141 "FieldScribeModel" "number" "I", Cond.methodLink RX12 221 yX12_isTrue, Cond.instanceMethod yX12_isTrue, Cond.selects RX12 yX12_isTrue yX12_isTrue, Cond.code yX12_isTrue cX12_isTrue 5 (some .boolean), Cond.methodLink RX12 186 yX12_isSame, Cond.instanceMethod yX12_isSame, Cond.selects RX12 yX12_isSame yX12_isSame, Cond.code yX12_isSame cX12_isSame 3 (some .boolean), Cond.methodLink RX12 127 yX12_isNumeric, Cond.instanceMethod yX12_isNumeric, Cond.selects RX12 yX12_isNumeric yX12_isNumeric, Cond.code yX12_isNumeric cX12_isNumeric 2 (some .boolean), Cond.methodLink RX12 124 yX12_numeric, Cond.instanceMethod yX12_numeric, Cond.selects RX12 yX12_numeric yX12_numeric, Cond.code yX12_numeric cX12_numeric 6 (some .int), Cond.methodLink RX12 110 yX12_from, Cond.instanceMethod yX12_from, Cond.selects RX12 yX12_from yX12_from, Cond.code yX12_from cX12_from 2 (some .int), Cond.methodLink RX12 114 yX12_to, Cond.instanceMethod yX12_to]
def wsL_law0_r24 : List Cond := [Cond.selects RX12 yX12_to yX12_to, Cond.code yX12_to cX12_to 2 (some .int), Cond.methodLink RX12 120 yX12_isDigit, Cond.static yX12_isDigit, Cond.code yX12_isDigit cX12_isDigit 1 (some .boolean), Cond.methodLink RX12 130 yX12_numberOf, Cond.instanceMethod yX12_numberOf, Cond.selects RX12 yX12_numberOf yX12_numberOf, Cond.code yX12_numberOf cX12_numberOf 6 (some .int), Cond.methodLink RX12 190 yX12_isLess, Cond.instanceMethod yX12_isLess, Cond.selects RX12 yX12_isLess yX12_isLess, Cond.code yX12_isLess cX12_isLess 5 (some .boolean), Cond.methodLink RX12 133 yX12_rank, Cond.static yX12_rank, Cond.code yX12_rank cX12_rank 1 (some .int), Cond.methodLink RX12 224 yX12_acts, Cond.instanceMethod yX12_acts, Cond.selects RX12 yX12_acts yX12_acts, Cond.code yX12_acts cX12_acts 3 (some .boolean), Cond.methodLink RX12 218 yX12_does, Cond.instanceMethod yX12_does, Cond.selects RX12 yX12_does yX12_does, Cond.code yX12_does cX12_does 2 none]
def wsL_law0_r25 : List Cond := [Cond.methodLink RX12 202 yX12_finds, Cond.instanceMethod yX12_finds, Cond.selects RX12 yX12_finds yX12_finds, Cond.code yX12_finds cX12_finds 9 (some .int), Cond.fieldLink RX12 94 "FieldScribeModel" "madeLength" "I", Cond.fieldLink RX12 100 "FieldScribeModel" "valueLength" "I", Cond.methodLink RX12 150 yX12_addsOperand, Cond.instanceMethod yX12_addsOperand, Cond.selects RX12 yX12_addsOperand yX12_addsOperand, Cond.code yX12_addsOperand cX12_addsOperand 3 none, Cond.methodLink RX12 138 yX12_isFieldOf, Cond.static yX12_isFieldOf, Cond.code yX12_isFieldOf cX12_isFieldOf 1 (some .boolean), Cond.methodLink RX12 103 yX12_adds, Cond.instanceMethod yX12_adds, Cond.selects RX12 yX12_adds yX12_adds, Cond.code yX12_adds cX12_adds 2 none, Cond.methodLink RX12 144 yX12_numberOfOperand, Cond.instanceMethod yX12_numberOfOperand, Cond.selects RX12 yX12_numberOfOperand yX12_numberOfOperand, Cond.code yX12_numberOfOperand cX12_numberOfOperand 2 (some .int), Cond.methodLink RX12 147 yX12_writes, Cond.instanceMethod yX12_writes, Cond.selects RX12 yX12_writes yX12_writes]
def wsL_law0_r26 : List Cond := [Cond.code yX12_writes cX12_writes 6 none, Cond.constantLong RX12 136 (10), Cond.methodLink RX12 107 yX12_addsValue, Cond.instanceMethod yX12_addsValue, Cond.selects RX12 yX12_addsValue yX12_addsValue, Cond.code yX12_addsValue cX12_addsValue 2 none, Cond.methodLink RX12 153 yX12_numberOfValue, Cond.instanceMethod yX12_numberOfValue, Cond.selects RX12 yX12_numberOfValue yX12_numberOfValue, Cond.code yX12_numberOfValue cX12_numberOfValue 4 (some .int), Cond.methodLink RX12 157 yX12_fits, Cond.instanceMethod yX12_fits, Cond.selects RX12 yX12_fits yX12_fits, Cond.code yX12_fits cX12_fits 4 (some .int), Cond.constantLong RX12 161 (-2147483648), Cond.constantLong RX12 163 (2147483647), Cond.fieldLink RX12 165 "FieldScribeModel" "faults" "I", Cond.methodLink RX12 205 yX12_sets, Cond.instanceMethod yX12_sets, Cond.selects RX12 yX12_sets yX12_sets, Cond.code yX12_sets cX12_sets 5 none, Cond.methodLink RX12 117 yX12_becomes, Cond.instanceMethod yX12_becomes, Cond.selects RX12 yX12_becomes yX12_becomes]
def wsL_law0_r27 : List Cond := [Cond.code yX12_becomes cX12_becomes 2 none, Cond.methodLink RX12 208 yX12_grows, Cond.instanceMethod yX12_grows, Cond.selects RX12 yX12_grows yX12_grows, Cond.code yX12_grows cX12_grows 5 none, Cond.fieldLink RX12 193 "FieldScribeModel" "rows" "I", Cond.methodLink RX12 196 yX12_rowOf, Cond.instanceMethod yX12_rowOf, Cond.selects RX12 yX12_rowOf yX12_rowOf, Cond.code yX12_rowOf cX12_rowOf 6 (some .int), Cond.methodLink RX12 212 yX12_prints, Cond.instanceMethod yX12_prints, Cond.selects RX12 yX12_prints yX12_prints, Cond.code yX12_prints cX12_prints 3 none, Cond.fieldLink RX12 199 "FieldScribeModel" "lines" "I", Cond.methodLink RX12 215 yX12_drops, Cond.instanceMethod yX12_drops, Cond.selects RX12 yX12_drops yX12_drops, Cond.code yX12_drops cX12_drops 5 none, Cond.methodLink RL 84 yL_setField, Cond.static yL_setField, Cond.codeWith yL_setField cL_setField 5 (some .int) [(0, 10, 13, 21)], Cond.methodLink RL 30 yX11_setField, Cond.instanceMethod yX11_setField]
def wsL_law0_r28 : List Cond := [Cond.selects RX11 yX11_setField yX11_setField, Cond.code yX11_setField cX11_setField 3 (some .int), Cond.methodLink RX11 171 yX11_requireField, Cond.static yX11_requireField, Cond.code yX11_requireField cX11_requireField 1 none, Cond.methodLink RL 87 yX12_setField, Cond.instanceMethod yX12_setField, Cond.selects RX12 yX12_setField yX12_setField, Cond.code yX12_setField cX12_setField 3 (some .int), Cond.methodLink RL 88 yX11_fields, Cond.instanceMethod yX11_fields, Cond.selects RX11 yX11_fields yX11_fields, Cond.code yX11_fields cX11_fields 1 (some .int), Cond.methodLink RL 91 yX12_fields, Cond.instanceMethod yX12_fields, Cond.selects RX12 yX12_fields yX12_fields, Cond.code yX12_fields cX12_fields 1 (some .int), Cond.methodLink RL 92 yL_number, Cond.static yL_number, Cond.codeWith yL_number cL_number 4 (some .int) [(0, 9, 12, 21)], Cond.methodLink RL 34 yX11_number, Cond.instanceMethod yX11_number, Cond.selects RX11 yX11_number yX11_number, Cond.code yX11_number cX11_number 2 (some .int)]
def wsL_law0_r29 : List Cond := [Cond.methodLink RL 94 yX12_number, Cond.instanceMethod yX12_number, Cond.selects RX12 yX12_number yX12_number, Cond.code yX12_number cX12_number 2 (some .int), Cond.methodLink RL 95 yL_character, Cond.static yL_character, Cond.codeWith yL_character cL_character 5 (some .int) [(0, 10, 13, 21)], Cond.methodLink RL 37 yX11_character, Cond.instanceMethod yX11_character, Cond.selects RX11 yX11_character yX11_character, Cond.code yX11_character cX11_character 3 (some .char), Cond.methodLink RX11 183 yX11_signAt, Cond.static yX11_signAt, Cond.code yX11_signAt cX11_signAt 2 (some .char), Cond.methodLink RX11 188 yX11_requirePlace, Cond.static yX11_requirePlace, Cond.code yX11_requirePlace cX11_requirePlace 2 none, Cond.methodLink RX11 217 yX10_at, Cond.methodLink RL 97 yX12_character, Cond.instanceMethod yX12_character, Cond.selects RX12 yX12_character yX12_character, Cond.code yX12_character cX12_character 4 (some .char), Cond.methodLink RL 98 yX11_rows, Cond.instanceMethod yX11_rows]
def wsL_law0_r30 : List Cond := [Cond.selects RX11 yX11_rows yX11_rows, Cond.code yX11_rows cX11_rows 1 (some .int), Cond.methodLink RL 101 yX12_rows, Cond.instanceMethod yX12_rows, Cond.selects RX12 yX12_rows yX12_rows, Cond.code yX12_rows cX12_rows 1 (some .int), Cond.methodLink RL 102 yL_row, Cond.static yL_row, Cond.codeWith yL_row cL_row 4 (some .int) [(0, 9, 12, 21)], Cond.methodLink RL 41 yX11_row, Cond.instanceMethod yX11_row, Cond.selects RX11 yX11_row yX11_row, Cond.code yX11_row cX11_row 2 (some .int), Cond.methodLink RX11 192 yX9_get, Cond.methodLink RL 104 yX12_row, Cond.instanceMethod yX12_row, Cond.selects RX12 yX12_row yX12_row, Cond.code yX12_row cX12_row 2 (some .int), Cond.methodLink RL 105 yL_key, Cond.static yL_key, Cond.codeWith yL_key cL_key 5 (some .int) [(0, 10, 13, 21)], Cond.methodLink RL 44 yX11_key, Cond.instanceMethod yX11_key, Cond.selects RX11 yX11_key yX11_key]
def wsL_law0_r31 : List Cond := [Cond.code yX11_key cX11_key 3 (some .char), Cond.methodLink RL 107 yX12_key, Cond.instanceMethod yX12_key, Cond.selects RX12 yX12_key yX12_key, Cond.code yX12_key cX12_key 4 (some .char), Cond.methodLink RL 108 yX11_lines, Cond.instanceMethod yX11_lines, Cond.selects RX11 yX11_lines yX11_lines, Cond.code yX11_lines cX11_lines 1 (some .int), Cond.methodLink RL 111 yX12_lines, Cond.instanceMethod yX12_lines, Cond.selects RX12 yX12_lines yX12_lines, Cond.code yX12_lines cX12_lines 1 (some .int), Cond.methodLink RL 112 yL_line, Cond.static yL_line, Cond.codeWith yL_line cL_line 5 (some .int) [(0, 10, 13, 21)], Cond.methodLink RL 47 yX11_line, Cond.instanceMethod yX11_line, Cond.selects RX11 yX11_line yX11_line, Cond.code yX11_line cX11_line 3 (some .char), Cond.methodLink RX11 204 yX5_get, Cond.methodLink RL 114 yX12_line, Cond.instanceMethod yX12_line, Cond.selects RX12 yX12_line yX12_line]
def wsL_law0_r32 : List Cond := [Cond.code yX12_line cX12_line 4 (some .char), Cond.methodLink RL 115 yX11_faults, Cond.instanceMethod yX11_faults, Cond.selects RX11 yX11_faults yX11_faults, Cond.code yX11_faults cX11_faults 1 (some .int), Cond.methodLink RL 118 yX12_faults, Cond.instanceMethod yX12_faults, Cond.selects RX12 yX12_faults yX12_faults, Cond.code yX12_faults cX12_faults 1 (some .int)]
def wsL_law0 : List Cond := (wsL_law0_r1 ++ (wsL_law0_r2 ++ (wsL_law0_r3 ++ (wsL_law0_r4 ++ (wsL_law0_r5 ++ (wsL_law0_r6 ++ (wsL_law0_r7 ++ (wsL_law0_r8 ++ (wsL_law0_r9 ++ (wsL_law0_r10 ++ (wsL_law0_r11 ++ (wsL_law0_r12 ++ (wsL_law0_r13 ++ (wsL_law0_r14 ++ (wsL_law0_r15 ++ (wsL_law0_r16 ++ (wsL_law0_r17 ++ (wsL_law0_r18 ++ (wsL_law0_r19 ++ (wsL_law0_r20 ++ (wsL_law0_r21 ++ (wsL_law0_r22 ++ (wsL_law0_r23 ++ (wsL_law0_r24 ++ (wsL_law0_r25 ++ (wsL_law0_r26 ++ (wsL_law0_r27 ++ (wsL_law0_r28 ++ (wsL_law0_r29 ++ (wsL_law0_r30 ++ (wsL_law0_r31 ++ wsL_law0_r32))))))))))))))))))))))))))))))) ++ wsX110 ++ wsX120 ++ wsJx4a65c0 ++ wsX40 ++ wsX90 ++ wsX50 ++ wsX80 ++ wsX100 ++ wsX60 ++ wsX70 ++ wsX00 ++ wsX20 ++ wsX10 ++ ([] : List Cond)
def wsL_law : List Cond := wsL_law0 ++ (vx_atS RX11 62 "java/lang/IllegalArgumentException" ["java/lang/RuntimeException", "java/lang/Exception"]).filter goodWord ++ (vx_atS RX11 73 "java/lang/IllegalStateException" ["java/lang/RuntimeException", "java/lang/Exception"]).filter goodWord ++ (vx_atS RX11 87 "java/lang/IndexOutOfBoundsException" ["java/lang/RuntimeException", "java/lang/Exception"]).filter goodWord
abbrev vwCl : List vw_C := [(RJx4a65c, TJx4a65c, 3), (RX0, TX0, 4), (RX1, TX1, 4), (RX2, TX2, 1), (RX4, TX4, 5), (RX5, TX5, 3), (RX6, TX6, 2), (RX7, TX7, 5), (RX8, TX8, 1), (RX9, TX9, 2), (RX10, TX10, 2), (RX11, TX11, 9), (RX12, TX12, 34)]
end
section
theorem iw_0 : (Cond.classLink RL 8 RX11) ∈ lw_tbl := List.mem_of_getElem? (i := 67) (by decide +kernel)
theorem iw_1 : (Cond.instantiable RX11 9) ∈ lw_tbl := List.mem_of_getElem? (i := 68) (by decide +kernel)
theorem iw_2 : (Cond.initialized RX11) ∈ lw_tbl := List.mem_of_getElem? (i := 39) (by decide +kernel)
theorem iw_3 : (Cond.classLink RL 51 RX12) ∈ lw_tbl := List.mem_of_getElem? (i := 802) (by decide +kernel)
theorem iw_4 : (Cond.instantiable RX12 34) ∈ lw_tbl := List.mem_of_getElem? (i := 803) (by decide +kernel)
theorem iw_5 : (Cond.initialized RX12) ∈ lw_tbl := List.mem_of_getElem? (i := 49) (by decide +kernel)
theorem iw_6 : (Cond.arrayClass .long) ∈ lw_tbl := List.mem_of_getElem? (i := 1108) (by decide +kernel)
theorem iw_7 : (Cond.methodLink RL 50 yX11_init) ∈ lw_tbl := List.mem_of_getElem? (i := 69) (by decide +kernel)
theorem iw_8 : (Cond.instanceMethod yX11_init) ∈ lw_tbl := List.mem_of_getElem? (i := 70) (by decide +kernel)
theorem iw_9 : (Cond.code yX11_init cX11_init 1 none) ∈ lw_tbl := List.mem_of_getElem? (i := 71) (by decide +kernel)
theorem iw_10 : (Cond.methodLink RX11 3 objectInit) ∈ lw_tbl := List.mem_of_getElem? (i := 72) (by decide +kernel)
theorem iw_11 : (Cond.instanceMethod objectInit) ∈ lw_tbl := List.mem_of_getElem? (i := 73) (by decide +kernel)
theorem iw_12 : (Cond.code objectInit ⟨#[0xb1]⟩ 1 none) ∈ lw_tbl := List.mem_of_getElem? (i := 74) (by decide +kernel)
theorem iw_13 : (Cond.classLink RX11 9 RJx4a65c) ∈ lw_tbl := List.mem_of_getElem? (i := 75) (by decide +kernel)
theorem iw_14 : (Cond.instantiable RJx4a65c 3) ∈ lw_tbl := List.mem_of_getElem? (i := 76) (by decide +kernel)
theorem iw_15 : (Cond.initialized RJx4a65c) ∈ lw_tbl := List.mem_of_getElem? (i := 42) (by decide +kernel)
theorem iw_16 : (Cond.fieldLink RX11 12 "FieldScribe" "program" "Ljava/util/ArrayList;") ∈ lw_tbl := List.mem_of_getElem? (i := 209) (by decide +kernel)
theorem iw_17 : (Cond.classLink RX11 16 RX4) ∈ lw_tbl := List.mem_of_getElem? (i := 101) (by decide +kernel)
theorem iw_18 : (Cond.instantiable RX4 5) ∈ lw_tbl := List.mem_of_getElem? (i := 102) (by decide +kernel)
theorem iw_19 : (Cond.initialized RX4) ∈ lw_tbl := List.mem_of_getElem? (i := 43) (by decide +kernel)
theorem iw_20 : (Cond.fieldLink RX11 19 "FieldScribe" "page" "LFieldScribe$Page;") ∈ lw_tbl := List.mem_of_getElem? (i := 210) (by decide +kernel)
theorem iw_21 : (Cond.classLink RX11 23 RX9) ∈ lw_tbl := List.mem_of_getElem? (i := 143) (by decide +kernel)
theorem iw_22 : (Cond.instantiable RX9 2) ∈ lw_tbl := List.mem_of_getElem? (i := 144) (by decide +kernel)
theorem iw_23 : (Cond.initialized RX9) ∈ lw_tbl := List.mem_of_getElem? (i := 45) (by decide +kernel)
theorem iw_24 : (Cond.fieldLink RX11 26 "FieldScribe" "table" "LFieldScribe$Table;") ∈ lw_tbl := List.mem_of_getElem? (i := 211) (by decide +kernel)
theorem iw_25 : (Cond.classLink RX11 30 RX5) ∈ lw_tbl := List.mem_of_getElem? (i := 176) (by decide +kernel)
theorem iw_26 : (Cond.instantiable RX5 3) ∈ lw_tbl := List.mem_of_getElem? (i := 177) (by decide +kernel)
theorem iw_27 : (Cond.initialized RX5) ∈ lw_tbl := List.mem_of_getElem? (i := 47) (by decide +kernel)
theorem iw_28 : (Cond.fieldLink RX11 33 "FieldScribe" "printout" "LFieldScribe$Printout;") ∈ lw_tbl := List.mem_of_getElem? (i := 212) (by decide +kernel)
theorem iw_29 : (Cond.classLink RX11 37 RX8) ∈ lw_tbl := List.mem_of_getElem? (i := 195) (by decide +kernel)
theorem iw_30 : (Cond.instantiable RX8 1) ∈ lw_tbl := List.mem_of_getElem? (i := 196) (by decide +kernel)
theorem iw_31 : (Cond.initialized RX8) ∈ lw_tbl := List.mem_of_getElem? (i := 48) (by decide +kernel)
theorem iw_32 : (Cond.fieldLink RX11 40 "FieldScribe" "machine" "LFieldScribe$StackMachine;") ∈ lw_tbl := List.mem_of_getElem? (i := 213) (by decide +kernel)
theorem iw_33 : (Cond.classLink RX11 44 RX10) ∈ lw_tbl := List.mem_of_getElem? (i := 207) (by decide +kernel)
theorem iw_34 : (Cond.instantiable RX10 2) ∈ lw_tbl := List.mem_of_getElem? (i := 108) (by decide +kernel)
theorem iw_35 : (Cond.initialized RX10) ∈ lw_tbl := List.mem_of_getElem? (i := 44) (by decide +kernel)
theorem iw_36 : (Cond.fieldLink RX11 47 "FieldScribe" "typed" "LFieldScribe$Text;") ∈ lw_tbl := List.mem_of_getElem? (i := 214) (by decide +kernel)
theorem iw_37 : (Cond.fieldLink RX11 51 "FieldScribe" "value" "LFieldScribe$Text;") ∈ lw_tbl := List.mem_of_getElem? (i := 215) (by decide +kernel)
theorem iw_38 : (Cond.methodLink RX11 11 yJx4a65c_init_da8c8) ∈ lw_tbl := List.mem_of_getElem? (i := 77) (by decide +kernel)
theorem iw_39 : (Cond.instanceMethod yJx4a65c_init_da8c8) ∈ lw_tbl := List.mem_of_getElem? (i := 78) (by decide +kernel)
theorem iw_40 : (Cond.code yJx4a65c_init_da8c8 cJx4a65c_init_da8c8 1 none) ∈ lw_tbl := List.mem_of_getElem? (i := 79) (by decide +kernel)
theorem iw_41 : (Cond.fieldLink RJx4a65c 39 "java/util/ArrayList" "DEFAULTCAPACITY_EMPTY_ELEMENTDATA" "[Ljava/lang/Object;") ∈ lw_tbl := List.mem_of_getElem? (i := 87) (by decide +kernel)
theorem iw_42 : (Cond.fieldLink RJx4a65c 9 "java/util/ArrayList" "elementData" "[Ljava/lang/Object;") ∈ lw_tbl := List.mem_of_getElem? (i := 89) (by decide +kernel)
theorem iw_43 : (Cond.methodLink RJx4a65c 1 yJxc12de_init_da8c8) ∈ lw_tbl := List.mem_of_getElem? (i := 80) (by decide +kernel)
theorem iw_44 : (Cond.instanceMethod yJxc12de_init_da8c8) ∈ lw_tbl := List.mem_of_getElem? (i := 81) (by decide +kernel)
theorem iw_45 : (Cond.initialized RJxc12de) ∈ lw_tbl := List.mem_of_getElem? (i := 41) (by decide +kernel)
theorem iw_46 : (Cond.code yJxc12de_init_da8c8 cJxc12de_init_da8c8 1 none) ∈ lw_tbl := List.mem_of_getElem? (i := 82) (by decide +kernel)
theorem iw_47 : (Cond.fieldLink RJxc12de 7 "java/util/AbstractList" "modCount" "I") ∈ lw_tbl := List.mem_of_getElem? (i := 91) (by decide +kernel)
theorem iw_48 : (Cond.methodLink RJxc12de 1 yJxa1e45_init_da8c8) ∈ lw_tbl := List.mem_of_getElem? (i := 83) (by decide +kernel)
theorem iw_49 : (Cond.instanceMethod yJxa1e45_init_da8c8) ∈ lw_tbl := List.mem_of_getElem? (i := 84) (by decide +kernel)
theorem iw_50 : (Cond.initialized RJxa1e45) ∈ lw_tbl := List.mem_of_getElem? (i := 40) (by decide +kernel)
theorem iw_51 : (Cond.code yJxa1e45_init_da8c8 cJxa1e45_init_da8c8 1 none) ∈ lw_tbl := List.mem_of_getElem? (i := 85) (by decide +kernel)
theorem iw_52 : (Cond.methodLink RJxa1e45 1 objectInit) ∈ lw_tbl := List.mem_of_getElem? (i := 86) (by decide +kernel)
theorem iw_53 : (Cond.methodLink RX11 18 yX4_init) ∈ lw_tbl := List.mem_of_getElem? (i := 103) (by decide +kernel)
theorem iw_54 : (Cond.instanceMethod yX4_init) ∈ lw_tbl := List.mem_of_getElem? (i := 104) (by decide +kernel)
theorem iw_55 : (Cond.code yX4_init cX4_init 2 none) ∈ lw_tbl := List.mem_of_getElem? (i := 105) (by decide +kernel)
theorem iw_56 : (Cond.methodLink RX4 3 objectInit) ∈ lw_tbl := List.mem_of_getElem? (i := 106) (by decide +kernel)
theorem iw_57 : (Cond.classLink RX4 9 RX10) ∈ lw_tbl := List.mem_of_getElem? (i := 107) (by decide +kernel)
theorem iw_58 : (Cond.fieldLink RX4 12 "FieldScribe$Page" "whole" "LFieldScribe$Text;") ∈ lw_tbl := List.mem_of_getElem? (i := 124) (by decide +kernel)
theorem iw_59 : (Cond.fieldLink RX4 18 "FieldScribe$Page" "pieces" "[LFieldScribe$Text;") ∈ lw_tbl := List.mem_of_getElem? (i := 125) (by decide +kernel)
theorem iw_60 : (Cond.fieldLink RX4 22 "FieldScribe$Page" "separator" "C") ∈ lw_tbl := List.mem_of_getElem? (i := 126) (by decide +kernel)
theorem iw_61 : (Cond.instanceMethod yX10_init) ∈ lw_tbl := List.mem_of_getElem? (i := 110) (by decide +kernel)
theorem iw_62 : (Cond.code yX10_init cX10_init 1 none) ∈ lw_tbl := List.mem_of_getElem? (i := 111) (by decide +kernel)
theorem iw_63 : (Cond.methodLink RX10 3 objectInit) ∈ lw_tbl := List.mem_of_getElem? (i := 112) (by decide +kernel)
theorem iw_64 : (Cond.arrayClass .char) ∈ lw_tbl := List.mem_of_getElem? (i := 122) (by decide +kernel)
theorem iw_65 : (Cond.fieldLink RX10 9 "FieldScribe$Text" "signs" "[C") ∈ lw_tbl := List.mem_of_getElem? (i := 113) (by decide +kernel)
theorem iw_66 : (Cond.methodLink RX11 25 yX9_init) ∈ lw_tbl := List.mem_of_getElem? (i := 145) (by decide +kernel)
theorem iw_67 : (Cond.instanceMethod yX9_init) ∈ lw_tbl := List.mem_of_getElem? (i := 146) (by decide +kernel)
theorem iw_68 : (Cond.code yX9_init cX9_init 2 none) ∈ lw_tbl := List.mem_of_getElem? (i := 147) (by decide +kernel)
theorem iw_69 : (Cond.methodLink RX9 3 objectInit) ∈ lw_tbl := List.mem_of_getElem? (i := 148) (by decide +kernel)
theorem iw_70 : (Cond.classLink RX9 9 RX6) ∈ lw_tbl := List.mem_of_getElem? (i := 149) (by decide +kernel)
theorem iw_71 : (Cond.fieldLink RX9 11 "FieldScribe$Table" "all" "[LFieldScribe$Row;") ∈ lw_tbl := List.mem_of_getElem? (i := 168) (by decide +kernel)
theorem iw_72 : (Cond.instantiable RX6 2) ∈ lw_tbl := List.mem_of_getElem? (i := 151) (by decide +kernel)
theorem iw_73 : (Cond.initialized RX6) ∈ lw_tbl := List.mem_of_getElem? (i := 46) (by decide +kernel)
theorem iw_74 : (Cond.instanceMethod yX6_init) ∈ lw_tbl := List.mem_of_getElem? (i := 153) (by decide +kernel)
theorem iw_75 : (Cond.code yX6_init cX6_init 1 none) ∈ lw_tbl := List.mem_of_getElem? (i := 154) (by decide +kernel)
theorem iw_76 : (Cond.methodLink RX6 1 objectInit) ∈ lw_tbl := List.mem_of_getElem? (i := 155) (by decide +kernel)
theorem iw_77 : (Cond.classLink RX6 7 RX10) ∈ lw_tbl := List.mem_of_getElem? (i := 156) (by decide +kernel)
theorem iw_78 : (Cond.fieldLink RX6 10 "FieldScribe$Row" "name" "LFieldScribe$Text;") ∈ lw_tbl := List.mem_of_getElem? (i := 158) (by decide +kernel)
theorem iw_79 : (Cond.methodLink RX11 32 yX5_init) ∈ lw_tbl := List.mem_of_getElem? (i := 178) (by decide +kernel)
theorem iw_80 : (Cond.instanceMethod yX5_init) ∈ lw_tbl := List.mem_of_getElem? (i := 179) (by decide +kernel)
theorem iw_81 : (Cond.code yX5_init cX5_init 2 none) ∈ lw_tbl := List.mem_of_getElem? (i := 180) (by decide +kernel)
theorem iw_82 : (Cond.methodLink RX5 3 objectInit) ∈ lw_tbl := List.mem_of_getElem? (i := 181) (by decide +kernel)
theorem iw_83 : (Cond.classLink RX5 9 RX10) ∈ lw_tbl := List.mem_of_getElem? (i := 182) (by decide +kernel)
theorem iw_84 : (Cond.fieldLink RX5 11 "FieldScribe$Printout" "ring" "[LFieldScribe$Text;") ∈ lw_tbl := List.mem_of_getElem? (i := 184) (by decide +kernel)
theorem iw_85 : (Cond.methodLink RX11 39 yX8_init) ∈ lw_tbl := List.mem_of_getElem? (i := 197) (by decide +kernel)
theorem iw_86 : (Cond.instanceMethod yX8_init) ∈ lw_tbl := List.mem_of_getElem? (i := 198) (by decide +kernel)
theorem iw_87 : (Cond.code yX8_init cX8_init 2 none) ∈ lw_tbl := List.mem_of_getElem? (i := 199) (by decide +kernel)
theorem iw_88 : (Cond.methodLink RX8 3 objectInit) ∈ lw_tbl := List.mem_of_getElem? (i := 200) (by decide +kernel)
theorem iw_89 : (Cond.classLink RX8 11 RX10) ∈ lw_tbl := List.mem_of_getElem? (i := 201) (by decide +kernel)
theorem iw_90 : (Cond.fieldLink RX8 13 "FieldScribe$StackMachine" "stack" "[LFieldScribe$Text;") ∈ lw_tbl := List.mem_of_getElem? (i := 203) (by decide +kernel)
theorem iw_91 : (Cond.methodLink RL 53 yX12_init) ∈ lw_tbl := List.mem_of_getElem? (i := 804) (by decide +kernel)
theorem iw_92 : (Cond.instanceMethod yX12_init) ∈ lw_tbl := List.mem_of_getElem? (i := 805) (by decide +kernel)
theorem iw_93 : (Cond.code yX12_init cX12_init 1 none) ∈ lw_tbl := List.mem_of_getElem? (i := 806) (by decide +kernel)
theorem iw_94 : (Cond.methodLink RX12 1 objectInit) ∈ lw_tbl := List.mem_of_getElem? (i := 807) (by decide +kernel)
theorem iw_95 : (Cond.fieldLink RX12 7 "FieldScribeModel" "separator" "I") ∈ lw_tbl := List.mem_of_getElem? (i := 808) (by decide +kernel)
theorem iw_96 : (Cond.arrayClass .int) ∈ lw_tbl := List.mem_of_getElem? (i := 721) (by decide +kernel)
theorem iw_97 : (Cond.fieldLink RX12 13 "FieldScribeModel" "record" "[I") ∈ lw_tbl := List.mem_of_getElem? (i := 809) (by decide +kernel)
theorem iw_98 : (Cond.fieldLink RX12 17 "FieldScribeModel" "begins" "[I") ∈ lw_tbl := List.mem_of_getElem? (i := 812) (by decide +kernel)
theorem iw_99 : (Cond.fieldLink RX12 20 "FieldScribeModel" "ends" "[I") ∈ lw_tbl := List.mem_of_getElem? (i := 813) (by decide +kernel)
theorem iw_100 : (Cond.fieldLink RX12 23 "FieldScribeModel" "typed" "[I") ∈ lw_tbl := List.mem_of_getElem? (i := 814) (by decide +kernel)
theorem iw_101 : (Cond.fieldLink RX12 26 "FieldScribeModel" "pattern" "[I") ∈ lw_tbl := List.mem_of_getElem? (i := 819) (by decide +kernel)
theorem iw_102 : (Cond.fieldLink RX12 29 "FieldScribeModel" "first" "[I") ∈ lw_tbl := List.mem_of_getElem? (i := 820) (by decide +kernel)
theorem iw_103 : (Cond.fieldLink RX12 32 "FieldScribeModel" "second" "[I") ∈ lw_tbl := List.mem_of_getElem? (i := 821) (by decide +kernel)
theorem iw_104 : (Cond.arrayClass .boolean) ∈ lw_tbl := List.mem_of_getElem? (i := 911) (by decide +kernel)
theorem iw_105 : (Cond.fieldLink RX12 35 "FieldScribeModel" "isOn" "[Z") ∈ lw_tbl := List.mem_of_getElem? (i := 822) (by decide +kernel)
theorem iw_106 : (Cond.fieldLink RX12 39 "FieldScribeModel" "actions" "[I") ∈ lw_tbl := List.mem_of_getElem? (i := 823) (by decide +kernel)
theorem iw_107 : (Cond.fieldLink RX12 42 "FieldScribeModel" "kind" "[I") ∈ lw_tbl := List.mem_of_getElem? (i := 824) (by decide +kernel)
theorem iw_108 : (Cond.fieldLink RX12 45 "FieldScribeModel" "field" "[I") ∈ lw_tbl := List.mem_of_getElem? (i := 825) (by decide +kernel)
theorem iw_109 : (Cond.fieldLink RX12 48 "FieldScribeModel" "operation" "[I") ∈ lw_tbl := List.mem_of_getElem? (i := 826) (by decide +kernel)
theorem iw_110 : (Cond.fieldLink RX12 51 "FieldScribeModel" "x" "[I") ∈ lw_tbl := List.mem_of_getElem? (i := 827) (by decide +kernel)
theorem iw_111 : (Cond.fieldLink RX12 54 "FieldScribeModel" "y" "[I") ∈ lw_tbl := List.mem_of_getElem? (i := 828) (by decide +kernel)
theorem iw_112 : (Cond.fieldLink RX12 57 "FieldScribeModel" "keys" "[I") ∈ lw_tbl := List.mem_of_getElem? (i := 830) (by decide +kernel)
theorem iw_113 : (Cond.fieldLink RX12 60 "FieldScribeModel" "keyLength" "[I") ∈ lw_tbl := List.mem_of_getElem? (i := 831) (by decide +kernel)
theorem iw_114 : (Cond.fieldLink RX12 63 "FieldScribeModel" "sums" "[I") ∈ lw_tbl := List.mem_of_getElem? (i := 832) (by decide +kernel)
theorem iw_115 : (Cond.fieldLink RX12 66 "FieldScribeModel" "printed" "[I") ∈ lw_tbl := List.mem_of_getElem? (i := 834) (by decide +kernel)
theorem iw_116 : (Cond.fieldLink RX12 69 "FieldScribeModel" "printedLength" "[I") ∈ lw_tbl := List.mem_of_getElem? (i := 835) (by decide +kernel)
theorem iw_117 : (Cond.fieldLink RX12 72 "FieldScribeModel" "value" "[I") ∈ lw_tbl := List.mem_of_getElem? (i := 836) (by decide +kernel)
theorem iw_118 : (Cond.fieldLink RX12 75 "FieldScribeModel" "made" "[I") ∈ lw_tbl := List.mem_of_getElem? (i := 838) (by decide +kernel)
theorem iw_119 : (Cond.fieldLink RX12 78 "FieldScribeModel" "digits" "[I") ∈ lw_tbl := List.mem_of_getElem? (i := 840) (by decide +kernel)
theorem iw_120 : (Cond.methodLink RL 54 yL_rule) ∈ lw_tbl := List.mem_of_getElem? (i := 443) (by decide +kernel)
theorem iw_121 : (Cond.static yL_rule) ∈ lw_tbl := List.mem_of_getElem? (i := 444) (by decide +kernel)
theorem iw_122 : (Cond.initialized RL) ∈ lw_tbl := List.mem_of_getElem? (i := 38) (by decide +kernel)
theorem iw_123 : (Cond.codeWith yL_rule cL_rule 6 (some .int) [(0, 12, 15, 13), (0, 12, 19, 15)]) ∈ lw_tbl := List.mem_of_getElem? (i := 445) (by decide +kernel)
theorem iw_124 : (Cond.classLink RL 13 "java/lang/IllegalArgumentException") ∈ lw_tbl := List.mem_of_getElem? (i := 446) (by decide +kernel)
theorem iw_125 : (Cond.classLink RL 15 "java/lang/IllegalStateException") ∈ lw_tbl := List.mem_of_getElem? (i := 447) (by decide +kernel)
theorem iw_126 : (Cond.methodLink RL 7 yX11_rule) ∈ lw_tbl := List.mem_of_getElem? (i := 448) (by decide +kernel)
theorem iw_127 : (Cond.instanceMethod yX11_rule) ∈ lw_tbl := List.mem_of_getElem? (i := 449) (by decide +kernel)
theorem iw_128 : (Cond.selects RX11 yX11_rule yX11_rule) ∈ lw_tbl := List.mem_of_getElem? (i := 450) (by decide +kernel)
theorem iw_129 : (Cond.code yX11_rule cX11_rule 4 (some .int)) ∈ lw_tbl := List.mem_of_getElem? (i := 451) (by decide +kernel)
theorem iw_130 : (Cond.classLink RX11 58 "java/lang/IllegalArgumentException") ∈ lw_tbl := List.mem_of_getElem? (i := 461) (by decide +kernel)
theorem iw_131 : (Cond.initialized "java/lang/IllegalArgumentException") ∈ lw_tbl := List.mem_of_getElem? (i := 53) (by decide +kernel)
theorem iw_132 : (Cond.classLink RX11 69 "java/lang/IllegalStateException") ∈ lw_tbl := List.mem_of_getElem? (i := 529) (by decide +kernel)
theorem iw_133 : (Cond.initialized "java/lang/IllegalStateException") ∈ lw_tbl := List.mem_of_getElem? (i := 54) (by decide +kernel)
theorem iw_134 : (Cond.classLink RX11 74 RX7) ∈ lw_tbl := List.mem_of_getElem? (i := 304) (by decide +kernel)
theorem iw_135 : (Cond.instantiable RX7 5) ∈ lw_tbl := List.mem_of_getElem? (i := 341) (by decide +kernel)
theorem iw_136 : (Cond.initialized RX7) ∈ lw_tbl := List.mem_of_getElem? (i := 55) (by decide +kernel)
theorem iw_137 : (Cond.methodLink RX11 54 yX11_isPattern) ∈ lw_tbl := List.mem_of_getElem? (i := 452) (by decide +kernel)
theorem iw_138 : (Cond.static yX11_isPattern) ∈ lw_tbl := List.mem_of_getElem? (i := 453) (by decide +kernel)
theorem iw_139 : (Cond.code yX11_isPattern cX11_isPattern 3 (some .boolean)) ∈ lw_tbl := List.mem_of_getElem? (i := 454) (by decide +kernel)
theorem iw_140 : (Cond.methodLink RX11 88 yX11_isField) ∈ lw_tbl := List.mem_of_getElem? (i := 455) (by decide +kernel)
theorem iw_141 : (Cond.static yX11_isField) ∈ lw_tbl := List.mem_of_getElem? (i := 456) (by decide +kernel)
theorem iw_142 : (Cond.code yX11_isField cX11_isField 1 (some .boolean)) ∈ lw_tbl := List.mem_of_getElem? (i := 457) (by decide +kernel)
theorem iw_143 : (Cond.methodLink RX11 208 yX11_isNumber) ∈ lw_tbl := List.mem_of_getElem? (i := 458) (by decide +kernel)
theorem iw_144 : (Cond.static yX11_isNumber) ∈ lw_tbl := List.mem_of_getElem? (i := 459) (by decide +kernel)
theorem iw_145 : (Cond.code yX11_isNumber cX11_isNumber 1 (some .boolean)) ∈ lw_tbl := List.mem_of_getElem? (i := 460) (by decide +kernel)
theorem iw_146 : (Cond.methodLink RX11 65 yJx4a65c_size_8abf5) ∈ lw_tbl := List.mem_of_getElem? (i := 286) (by decide +kernel)
theorem iw_147 : (Cond.instanceMethod yJx4a65c_size_8abf5) ∈ lw_tbl := List.mem_of_getElem? (i := 287) (by decide +kernel)
theorem iw_148 : (Cond.selects RJx4a65c yJx4a65c_size_8abf5 yJx4a65c_size_8abf5) ∈ lw_tbl := List.mem_of_getElem? (i := 288) (by decide +kernel)
theorem iw_149 : (Cond.code yJx4a65c_size_8abf5 cJx4a65c_size_8abf5 1 (some .int)) ∈ lw_tbl := List.mem_of_getElem? (i := 289) (by decide +kernel)
theorem iw_150 : (Cond.fieldLink RJx4a65c 48 "java/util/ArrayList" "size" "I") ∈ lw_tbl := List.mem_of_getElem? (i := 90) (by decide +kernel)
theorem iw_151 : (Cond.methodLink RX11 76 yX7_init) ∈ lw_tbl := List.mem_of_getElem? (i := 545) (by decide +kernel)
theorem iw_152 : (Cond.instanceMethod yX7_init) ∈ lw_tbl := List.mem_of_getElem? (i := 546) (by decide +kernel)
theorem iw_153 : (Cond.code yX7_init cX7_init 4 none) ∈ lw_tbl := List.mem_of_getElem? (i := 547) (by decide +kernel)
theorem iw_154 : (Cond.methodLink RX7 3 objectInit) ∈ lw_tbl := List.mem_of_getElem? (i := 548) (by decide +kernel)
theorem iw_155 : (Cond.classLink RX7 9 RJx4a65c) ∈ lw_tbl := List.mem_of_getElem? (i := 549) (by decide +kernel)
theorem iw_156 : (Cond.fieldLink RX7 12 "FieldScribe$Rule" "actions" "Ljava/util/ArrayList;") ∈ lw_tbl := List.mem_of_getElem? (i := 554) (by decide +kernel)
theorem iw_157 : (Cond.fieldLink RX7 18 "FieldScribe$Rule" "pattern" "I") ∈ lw_tbl := List.mem_of_getElem? (i := 551) (by decide +kernel)
theorem iw_158 : (Cond.fieldLink RX7 22 "FieldScribe$Rule" "a" "I") ∈ lw_tbl := List.mem_of_getElem? (i := 552) (by decide +kernel)
theorem iw_159 : (Cond.fieldLink RX7 25 "FieldScribe$Rule" "b" "I") ∈ lw_tbl := List.mem_of_getElem? (i := 553) (by decide +kernel)
theorem iw_160 : (Cond.methodLink RX7 11 yJx4a65c_init_da8c8) ∈ lw_tbl := List.mem_of_getElem? (i := 550) (by decide +kernel)
theorem iw_161 : (Cond.methodLink RX11 79 yJx4a65c_add_9ea2d) ∈ lw_tbl := List.mem_of_getElem? (i := 568) (by decide +kernel)
theorem iw_162 : (Cond.instanceMethod yJx4a65c_add_9ea2d) ∈ lw_tbl := List.mem_of_getElem? (i := 569) (by decide +kernel)
theorem iw_163 : (Cond.selects RJx4a65c yJx4a65c_add_9ea2d yJx4a65c_add_9ea2d) ∈ lw_tbl := List.mem_of_getElem? (i := 570) (by decide +kernel)
theorem iw_164 : (Cond.code yJx4a65c_add_9ea2d cJx4a65c_add_9ea2d 2 (some .boolean)) ∈ lw_tbl := List.mem_of_getElem? (i := 571) (by decide +kernel)
theorem iw_165 : (Cond.fieldLink RJx4a65c 63 "java/util/ArrayList" "modCount" "I") ∈ lw_tbl := List.mem_of_getElem? (i := 92) (by decide +kernel)
theorem iw_166 : (Cond.sameField "java/util/ArrayList" "java/util/AbstractList" "modCount" "I") ∈ lw_tbl := List.mem_of_getElem? (i := 93) (by decide +kernel)
theorem iw_167 : (Cond.methodLink RJx4a65c 131 yJx4a65c_add_72be8) ∈ lw_tbl := List.mem_of_getElem? (i := 572) (by decide +kernel)
theorem iw_168 : (Cond.instanceMethod yJx4a65c_add_72be8) ∈ lw_tbl := List.mem_of_getElem? (i := 574) (by decide +kernel)
theorem iw_169 : (Cond.selects RJx4a65c yJx4a65c_add_72be8 yJx4a65c_add_72be8) ∈ lw_tbl := List.mem_of_getElem? (i := 9) (by decide +kernel)
theorem iw_170 : (Cond.code yJx4a65c_add_72be8 cJx4a65c_add_72be8 4 none) ∈ lw_tbl := List.mem_of_getElem? (i := 575) (by decide +kernel)
theorem iw_171 : (Cond.methodLink RJx4a65c 129 yJx4a65c_grow_d5877) ∈ lw_tbl := List.mem_of_getElem? (i := 576) (by decide +kernel)
theorem iw_172 : (Cond.instanceMethod yJx4a65c_grow_d5877) ∈ lw_tbl := List.mem_of_getElem? (i := 578) (by decide +kernel)
theorem iw_173 : (Cond.selects RJx4a65c yJx4a65c_grow_d5877 yJx4a65c_grow_d5877) ∈ lw_tbl := List.mem_of_getElem? (i := 10) (by decide +kernel)
theorem iw_174 : (Cond.code yJx4a65c_grow_d5877 cJx4a65c_grow_d5877 1 (some (.array (.object "java/lang/Object")))) ∈ lw_tbl := List.mem_of_getElem? (i := 579) (by decide +kernel)
theorem iw_175 : (Cond.methodLink RJx4a65c 69 yJx4a65c_grow_92f84) ∈ lw_tbl := List.mem_of_getElem? (i := 580) (by decide +kernel)
theorem iw_176 : (Cond.instanceMethod yJx4a65c_grow_92f84) ∈ lw_tbl := List.mem_of_getElem? (i := 582) (by decide +kernel)
theorem iw_177 : (Cond.selects RJx4a65c yJx4a65c_grow_92f84 yJx4a65c_grow_92f84) ∈ lw_tbl := List.mem_of_getElem? (i := 11) (by decide +kernel)
theorem iw_178 : (Cond.code yJx4a65c_grow_92f84 cJx4a65c_grow_92f84 4 (some (.array (.object "java/lang/Object")))) ∈ lw_tbl := List.mem_of_getElem? (i := 583) (by decide +kernel)
theorem iw_179 : (Cond.methodLink RJx4a65c 79 Lib.Math.max.name) ∈ lw_tbl := List.mem_of_getElem? (i := 627) (by decide +kernel)
theorem iw_180 : (Cond.static Lib.Math.max.name) ∈ lw_tbl := List.mem_of_getElem? (i := 258) (by decide +kernel)
theorem iw_181 : (Cond.initialized "java/lang/Math") ∈ lw_tbl := List.mem_of_getElem? (i := 57) (by decide +kernel)
theorem iw_182 : (Cond.code Lib.Math.max.name Lib.Math.max.code 2 (some .int)) ∈ lw_tbl := List.mem_of_getElem? (i := 259) (by decide +kernel)
theorem iw_183 : (Cond.classLink RJx4a65c 7 "java/lang/Object") ∈ lw_tbl := List.mem_of_getElem? (i := 628) (by decide +kernel)
theorem iw_184 : (Cond.methodLink RJx4a65c 73 yJ8_newLength_cabcc) ∈ lw_tbl := List.mem_of_getElem? (i := 584) (by decide +kernel)
theorem iw_185 : (Cond.static yJ8_newLength_cabcc) ∈ lw_tbl := List.mem_of_getElem? (i := 585) (by decide +kernel)
theorem iw_186 : (Cond.initialized RJ8) ∈ lw_tbl := List.mem_of_getElem? (i := 56) (by decide +kernel)
theorem iw_187 : (Cond.code yJ8_newLength_cabcc cJ8_newLength_cabcc 4 (some .int)) ∈ lw_tbl := List.mem_of_getElem? (i := 586) (by decide +kernel)
theorem iw_188 : (Cond.methodLink RJ8 194 Lib.Math.max.name) ∈ lw_tbl := List.mem_of_getElem? (i := 587) (by decide +kernel)
theorem iw_189 : (Cond.constant RJ8 200 (2147483639)) ∈ lw_tbl := List.mem_of_getElem? (i := 588) (by decide +kernel)
theorem iw_190 : (Cond.methodLink RJ8 201 yJ8_hugeLength_7cf53) ∈ lw_tbl := List.mem_of_getElem? (i := 589) (by decide +kernel)
theorem iw_191 : (Cond.static yJ8_hugeLength_7cf53) ∈ lw_tbl := List.mem_of_getElem? (i := 590) (by decide +kernel)
theorem iw_192 : (Cond.code yJ8_hugeLength_7cf53 cJ8_hugeLength_7cf53 3 (some .int)) ∈ lw_tbl := List.mem_of_getElem? (i := 591) (by decide +kernel)
theorem iw_193 : (Cond.methodLink RJx4a65c 66 yJ7_copyOf_1904c) ∈ lw_tbl := List.mem_of_getElem? (i := 592) (by decide +kernel)
theorem iw_194 : (Cond.static yJ7_copyOf_1904c) ∈ lw_tbl := List.mem_of_getElem? (i := 593) (by decide +kernel)
theorem iw_195 : (Cond.initialized RJ7) ∈ lw_tbl := List.mem_of_getElem? (i := 58) (by decide +kernel)
theorem iw_196 : (Cond.code yJ7_copyOf_1904c cJ7_copyOf_1904c 2 (some (.array (.object "java/lang/Object")))) ∈ lw_tbl := List.mem_of_getElem? (i := 594) (by decide +kernel)
theorem iw_197 : (Cond.methodLink RJ7 86 ⟨"java/lang/Object", "getClass", "()Ljava/lang/Class;"⟩) ∈ lw_tbl := List.mem_of_getElem? (i := 595) (by decide +kernel)
theorem iw_198 : (Cond.selects "[Ljava/lang/Object;" ⟨"java/lang/Object", "getClass", "()Ljava/lang/Class;"⟩ ⟨"java/lang/Object", "getClass", "()Ljava/lang/Class;"⟩) ∈ lw_tbl := List.mem_of_getElem? (i := 1129) (by decide +kernel)
theorem iw_199 : (Cond.instanceMethod ⟨"java/lang/Object", "getClass", "()Ljava/lang/Class;"⟩) ∈ lw_tbl := List.mem_of_getElem? (i := 596) (by decide +kernel)
theorem iw_200 : (Cond.native ⟨"java/lang/Object", "getClass", "()Ljava/lang/Class;"⟩) ∈ lw_tbl := List.mem_of_getElem? (i := 614) (by decide +kernel)
theorem iw_201 : (Cond.methodLink RJ7 300 yJ7_copyOf_6403c) ∈ lw_tbl := List.mem_of_getElem? (i := 615) (by decide +kernel)
theorem iw_202 : (Cond.static yJ7_copyOf_6403c) ∈ lw_tbl := List.mem_of_getElem? (i := 616) (by decide +kernel)
theorem iw_203 : (Cond.code yJ7_copyOf_6403c cJ7_copyOf_6403c 4 (some (.array (.object "java/lang/Object")))) ∈ lw_tbl := List.mem_of_getElem? (i := 617) (by decide +kernel)
theorem iw_204 : (Cond.classLink RJ7 110 "[Ljava/lang/Object;") ∈ lw_tbl := List.mem_of_getElem? (i := 618) (by decide +kernel)
theorem iw_205 : (Cond.classLink RJ7 2 "java/lang/Object") ∈ lw_tbl := List.mem_of_getElem? (i := 620) (by decide +kernel)
theorem iw_206 : (Cond.methodLink RJ7 304 Lib.Math.min.name) ∈ lw_tbl := List.mem_of_getElem? (i := 621) (by decide +kernel)
theorem iw_207 : (Cond.static Lib.Math.min.name) ∈ lw_tbl := List.mem_of_getElem? (i := 622) (by decide +kernel)
theorem iw_208 : (Cond.code Lib.Math.min.name Lib.Math.min.code 2 (some .int)) ∈ lw_tbl := List.mem_of_getElem? (i := 623) (by decide +kernel)
theorem iw_209 : (Cond.methodLink RJ7 150 arraycopyName) ∈ lw_tbl := List.mem_of_getElem? (i := 624) (by decide +kernel)
theorem iw_210 : (Cond.native arraycopyName) ∈ lw_tbl := List.mem_of_getElem? (i := 626) (by decide +kernel)
theorem iw_211 : (Cond.static arraycopyName) ∈ lw_tbl := List.mem_of_getElem? (i := 625) (by decide +kernel)
theorem iw_212 : (Cond.initialized "java/lang/System") ∈ lw_tbl := List.mem_of_getElem? (i := 59) (by decide +kernel)
theorem iw_213 : (Cond.methodLink RL 59 yX12_rule) ∈ lw_tbl := List.mem_of_getElem? (i := 916) (by decide +kernel)
theorem iw_214 : (Cond.instanceMethod yX12_rule) ∈ lw_tbl := List.mem_of_getElem? (i := 917) (by decide +kernel)
theorem iw_215 : (Cond.selects RX12 yX12_rule yX12_rule) ∈ lw_tbl := List.mem_of_getElem? (i := 918) (by decide +kernel)
theorem iw_216 : (Cond.code yX12_rule cX12_rule 5 (some .int)) ∈ lw_tbl := List.mem_of_getElem? (i := 919) (by decide +kernel)
theorem iw_217 : (Cond.fieldLink RX12 168 "FieldScribeModel" "rules" "I") ∈ lw_tbl := List.mem_of_getElem? (i := 818) (by decide +kernel)
theorem iw_218 : (Cond.methodLink RX12 84 yX12_isIn) ∈ lw_tbl := List.mem_of_getElem? (i := 920) (by decide +kernel)
theorem iw_219 : (Cond.static yX12_isIn) ∈ lw_tbl := List.mem_of_getElem? (i := 921) (by decide +kernel)
theorem iw_220 : (Cond.code yX12_isIn cX12_isIn 3 (some .boolean)) ∈ lw_tbl := List.mem_of_getElem? (i := 922) (by decide +kernel)
theorem iw_221 : (Cond.methodLink RX12 171 yX12_fails) ∈ lw_tbl := List.mem_of_getElem? (i := 923) (by decide +kernel)
theorem iw_222 : (Cond.instanceMethod yX12_fails) ∈ lw_tbl := List.mem_of_getElem? (i := 925) (by decide +kernel)
theorem iw_223 : (Cond.selects RX12 yX12_fails yX12_fails) ∈ lw_tbl := List.mem_of_getElem? (i := 12) (by decide +kernel)
theorem iw_224 : (Cond.code yX12_fails cX12_fails 2 (some .boolean)) ∈ lw_tbl := List.mem_of_getElem? (i := 926) (by decide +kernel)
theorem iw_225 : (Cond.fieldLink RX12 81 "FieldScribeModel" "thrown" "I") ∈ lw_tbl := List.mem_of_getElem? (i := 841) (by decide +kernel)
theorem iw_226 : (Cond.methodLink RL 60 yX12_thrown) ∈ lw_tbl := List.mem_of_getElem? (i := 912) (by decide +kernel)
theorem iw_227 : (Cond.instanceMethod yX12_thrown) ∈ lw_tbl := List.mem_of_getElem? (i := 913) (by decide +kernel)
theorem iw_228 : (Cond.selects RX12 yX12_thrown yX12_thrown) ∈ lw_tbl := List.mem_of_getElem? (i := 914) (by decide +kernel)
theorem iw_229 : (Cond.code yX12_thrown cX12_thrown 1 (some .int)) ∈ lw_tbl := List.mem_of_getElem? (i := 915) (by decide +kernel)
theorem iw_230 : (Cond.methodLink RL 64 yL_act) ∈ lw_tbl := List.mem_of_getElem? (i := 629) (by decide +kernel)
theorem iw_231 : (Cond.static yL_act) ∈ lw_tbl := List.mem_of_getElem? (i := 630) (by decide +kernel)
theorem iw_232 : (Cond.codeWith yL_act cL_act 9 (some .int) [(0, 18, 21, 21), (0, 18, 25, 13), (0, 18, 29, 15)]) ∈ lw_tbl := List.mem_of_getElem? (i := 631) (by decide +kernel)
theorem iw_233 : (Cond.classLink RL 21 "java/lang/IndexOutOfBoundsException") ∈ lw_tbl := List.mem_of_getElem? (i := 632) (by decide +kernel)
theorem iw_234 : (Cond.methodLink RL 17 yX11_act) ∈ lw_tbl := List.mem_of_getElem? (i := 633) (by decide +kernel)
theorem iw_235 : (Cond.instanceMethod yX11_act) ∈ lw_tbl := List.mem_of_getElem? (i := 634) (by decide +kernel)
theorem iw_236 : (Cond.selects RX11 yX11_act yX11_act) ∈ lw_tbl := List.mem_of_getElem? (i := 635) (by decide +kernel)
theorem iw_237 : (Cond.code yX11_act cX11_act 8 (some .int)) ∈ lw_tbl := List.mem_of_getElem? (i := 636) (by decide +kernel)
theorem iw_238 : (Cond.classLink RX11 83 "java/lang/IndexOutOfBoundsException") ∈ lw_tbl := List.mem_of_getElem? (i := 637) (by decide +kernel)
theorem iw_239 : (Cond.initialized "java/lang/IndexOutOfBoundsException") ∈ lw_tbl := List.mem_of_getElem? (i := 60) (by decide +kernel)
theorem iw_240 : (Cond.classLink RX11 108 RX0) ∈ lw_tbl := List.mem_of_getElem? (i := 347) (by decide +kernel)
theorem iw_241 : (Cond.instantiable RX0 4) ∈ lw_tbl := List.mem_of_getElem? (i := 659) (by decide +kernel)
theorem iw_242 : (Cond.initialized RX0) ∈ lw_tbl := List.mem_of_getElem? (i := 63) (by decide +kernel)
theorem iw_243 : (Cond.methodLink RX11 94 yX11_isOperand) ∈ lw_tbl := List.mem_of_getElem? (i := 654) (by decide +kernel)
theorem iw_244 : (Cond.static yX11_isOperand) ∈ lw_tbl := List.mem_of_getElem? (i := 655) (by decide +kernel)
theorem iw_245 : (Cond.code yX11_isOperand cX11_isOperand 1 (some .boolean)) ∈ lw_tbl := List.mem_of_getElem? (i := 656) (by decide +kernel)
theorem iw_246 : (Cond.methodLink RX11 99 yJx4a65c_get_915e3) ∈ lw_tbl := List.mem_of_getElem? (i := 290) (by decide +kernel)
theorem iw_247 : (Cond.instanceMethod yJx4a65c_get_915e3) ∈ lw_tbl := List.mem_of_getElem? (i := 291) (by decide +kernel)
theorem iw_248 : (Cond.selects RJx4a65c yJx4a65c_get_915e3 yJx4a65c_get_915e3) ∈ lw_tbl := List.mem_of_getElem? (i := 292) (by decide +kernel)
theorem iw_249 : (Cond.code yJx4a65c_get_915e3 cJx4a65c_get_915e3 2 (some (.object "java/lang/Object"))) ∈ lw_tbl := List.mem_of_getElem? (i := 293) (by decide +kernel)
theorem iw_250 : (Cond.methodLink RJx4a65c 118 yJ15_checkIndex_7cf53) ∈ lw_tbl := List.mem_of_getElem? (i := 294) (by decide +kernel)
theorem iw_251 : (Cond.static yJ15_checkIndex_7cf53) ∈ lw_tbl := List.mem_of_getElem? (i := 295) (by decide +kernel)
theorem iw_252 : (Cond.initialized RJ15) ∈ lw_tbl := List.mem_of_getElem? (i := 61) (by decide +kernel)
theorem iw_253 : (Cond.code yJ15_checkIndex_7cf53 cJ15_checkIndex_7cf53 2 (some .int)) ∈ lw_tbl := List.mem_of_getElem? (i := 296) (by decide +kernel)
theorem iw_254 : (Cond.methodLink RJ15 105 yJ3_checkIndex_8e157) ∈ lw_tbl := List.mem_of_getElem? (i := 297) (by decide +kernel)
theorem iw_255 : (Cond.static yJ3_checkIndex_8e157) ∈ lw_tbl := List.mem_of_getElem? (i := 298) (by decide +kernel)
theorem iw_256 : (Cond.initialized RJ3) ∈ lw_tbl := List.mem_of_getElem? (i := 62) (by decide +kernel)
theorem iw_257 : (Cond.code yJ3_checkIndex_8e157 cJ3_checkIndex_8e157 3 (some .int)) ∈ lw_tbl := List.mem_of_getElem? (i := 299) (by decide +kernel)
theorem iw_258 : (Cond.methodLink RJx4a65c 123 yJx4a65c_elementData_915e3) ∈ lw_tbl := List.mem_of_getElem? (i := 300) (by decide +kernel)
theorem iw_259 : (Cond.instanceMethod yJx4a65c_elementData_915e3) ∈ lw_tbl := List.mem_of_getElem? (i := 301) (by decide +kernel)
theorem iw_260 : (Cond.selects RJx4a65c yJx4a65c_elementData_915e3 yJx4a65c_elementData_915e3) ∈ lw_tbl := List.mem_of_getElem? (i := 302) (by decide +kernel)
theorem iw_261 : (Cond.code yJx4a65c_elementData_915e3 cJx4a65c_elementData_915e3 2 (some (.object "java/lang/Object"))) ∈ lw_tbl := List.mem_of_getElem? (i := 303) (by decide +kernel)
theorem iw_262 : (Cond.methodLink RX11 110 yX11_treeOf) ∈ lw_tbl := List.mem_of_getElem? (i := 660) (by decide +kernel)
theorem iw_263 : (Cond.static yX11_treeOf) ∈ lw_tbl := List.mem_of_getElem? (i := 661) (by decide +kernel)
theorem iw_264 : (Cond.code yX11_treeOf cX11_treeOf 3 (some (.object "FieldScribe$Node"))) ∈ lw_tbl := List.mem_of_getElem? (i := 662) (by decide +kernel)
theorem iw_265 : (Cond.classLink RX11 259 RX2) ∈ lw_tbl := List.mem_of_getElem? (i := 663) (by decide +kernel)
theorem iw_266 : (Cond.instantiable RX2 1) ∈ lw_tbl := List.mem_of_getElem? (i := 664) (by decide +kernel)
theorem iw_267 : (Cond.initialized RX2) ∈ lw_tbl := List.mem_of_getElem? (i := 65) (by decide +kernel)
theorem iw_268 : (Cond.classLink RX11 263 RX1) ∈ lw_tbl := List.mem_of_getElem? (i := 676) (by decide +kernel)
theorem iw_269 : (Cond.instantiable RX1 4) ∈ lw_tbl := List.mem_of_getElem? (i := 677) (by decide +kernel)
theorem iw_270 : (Cond.initialized RX1) ∈ lw_tbl := List.mem_of_getElem? (i := 66) (by decide +kernel)
theorem iw_271 : (Cond.methodLink RX11 261 yX2_init) ∈ lw_tbl := List.mem_of_getElem? (i := 665) (by decide +kernel)
theorem iw_272 : (Cond.instanceMethod yX2_init) ∈ lw_tbl := List.mem_of_getElem? (i := 666) (by decide +kernel)
theorem iw_273 : (Cond.code yX2_init cX2_init 2 none) ∈ lw_tbl := List.mem_of_getElem? (i := 667) (by decide +kernel)
theorem iw_274 : (Cond.fieldLink RX2 7 "FieldScribe$Leaf" "operand" "I") ∈ lw_tbl := List.mem_of_getElem? (i := 672) (by decide +kernel)
theorem iw_275 : (Cond.instanceMethod yX3_init) ∈ lw_tbl := List.mem_of_getElem? (i := 669) (by decide +kernel)
theorem iw_276 : (Cond.initialized RX3) ∈ lw_tbl := List.mem_of_getElem? (i := 64) (by decide +kernel)
theorem iw_277 : (Cond.code yX3_init cX3_init 1 none) ∈ lw_tbl := List.mem_of_getElem? (i := 670) (by decide +kernel)
theorem iw_278 : (Cond.methodLink RX3 1 objectInit) ∈ lw_tbl := List.mem_of_getElem? (i := 671) (by decide +kernel)
theorem iw_279 : (Cond.methodLink RX11 265 yX1_init) ∈ lw_tbl := List.mem_of_getElem? (i := 678) (by decide +kernel)
theorem iw_280 : (Cond.instanceMethod yX1_init) ∈ lw_tbl := List.mem_of_getElem? (i := 679) (by decide +kernel)
theorem iw_281 : (Cond.code yX1_init cX1_init 4 none) ∈ lw_tbl := List.mem_of_getElem? (i := 680) (by decide +kernel)
theorem iw_282 : (Cond.classLink RX1 7 RX10) ∈ lw_tbl := List.mem_of_getElem? (i := 682) (by decide +kernel)
theorem iw_283 : (Cond.fieldLink RX1 10 "FieldScribe$Fork" "second" "LFieldScribe$Text;") ∈ lw_tbl := List.mem_of_getElem? (i := 687) (by decide +kernel)
theorem iw_284 : (Cond.fieldLink RX1 16 "FieldScribe$Fork" "operation" "I") ∈ lw_tbl := List.mem_of_getElem? (i := 684) (by decide +kernel)
theorem iw_285 : (Cond.fieldLink RX1 20 "FieldScribe$Fork" "left" "LFieldScribe$Leaf;") ∈ lw_tbl := List.mem_of_getElem? (i := 685) (by decide +kernel)
theorem iw_286 : (Cond.fieldLink RX1 24 "FieldScribe$Fork" "right" "LFieldScribe$Leaf;") ∈ lw_tbl := List.mem_of_getElem? (i := 686) (by decide +kernel)
theorem iw_287 : (Cond.methodLink RX11 114 yX11_codeOf) ∈ lw_tbl := List.mem_of_getElem? (i := 697) (by decide +kernel)
theorem iw_288 : (Cond.static yX11_codeOf) ∈ lw_tbl := List.mem_of_getElem? (i := 698) (by decide +kernel)
theorem iw_289 : (Cond.code yX11_codeOf cX11_codeOf 3 (some (.array .int))) ∈ lw_tbl := List.mem_of_getElem? (i := 699) (by decide +kernel)
theorem iw_290 : (Cond.methodLink RX11 118 yX0_init) ∈ lw_tbl := List.mem_of_getElem? (i := 700) (by decide +kernel)
theorem iw_291 : (Cond.instanceMethod yX0_init) ∈ lw_tbl := List.mem_of_getElem? (i := 701) (by decide +kernel)
theorem iw_292 : (Cond.code yX0_init cX0_init 5 none) ∈ lw_tbl := List.mem_of_getElem? (i := 702) (by decide +kernel)
theorem iw_293 : (Cond.methodLink RX0 1 objectInit) ∈ lw_tbl := List.mem_of_getElem? (i := 703) (by decide +kernel)
theorem iw_294 : (Cond.fieldLink RX0 7 "FieldScribe$Action" "kind" "I") ∈ lw_tbl := List.mem_of_getElem? (i := 704) (by decide +kernel)
theorem iw_295 : (Cond.fieldLink RX0 13 "FieldScribe$Action" "field" "I") ∈ lw_tbl := List.mem_of_getElem? (i := 706) (by decide +kernel)
theorem iw_296 : (Cond.fieldLink RX0 16 "FieldScribe$Action" "tree" "LFieldScribe$Node;") ∈ lw_tbl := List.mem_of_getElem? (i := 708) (by decide +kernel)
theorem iw_297 : (Cond.fieldLink RX0 20 "FieldScribe$Action" "code" "[I") ∈ lw_tbl := List.mem_of_getElem? (i := 710) (by decide +kernel)
theorem iw_298 : (Cond.methodLink RL 67 yX12_act) ∈ lw_tbl := List.mem_of_getElem? (i := 927) (by decide +kernel)
theorem iw_299 : (Cond.instanceMethod yX12_act) ∈ lw_tbl := List.mem_of_getElem? (i := 928) (by decide +kernel)
theorem iw_300 : (Cond.selects RX12 yX12_act yX12_act) ∈ lw_tbl := List.mem_of_getElem? (i := 929) (by decide +kernel)
theorem iw_301 : (Cond.code yX12_act cX12_act 10 (some .int)) ∈ lw_tbl := List.mem_of_getElem? (i := 930) (by decide +kernel)
theorem iw_302 : (Cond.methodLink RX12 174 yX12_isField) ∈ lw_tbl := List.mem_of_getElem? (i := 931) (by decide +kernel)
theorem iw_303 : (Cond.static yX12_isField) ∈ lw_tbl := List.mem_of_getElem? (i := 932) (by decide +kernel)
theorem iw_304 : (Cond.code yX12_isField cX12_isField 1 (some .boolean)) ∈ lw_tbl := List.mem_of_getElem? (i := 933) (by decide +kernel)
theorem iw_305 : (Cond.methodLink RX12 177 yX12_isOperand) ∈ lw_tbl := List.mem_of_getElem? (i := 934) (by decide +kernel)
theorem iw_306 : (Cond.static yX12_isOperand) ∈ lw_tbl := List.mem_of_getElem? (i := 935) (by decide +kernel)
theorem iw_307 : (Cond.code yX12_isOperand cX12_isOperand 1 (some .boolean)) ∈ lw_tbl := List.mem_of_getElem? (i := 936) (by decide +kernel)
theorem iw_308 : (Cond.methodLink RL 68 yX11_useStack) ∈ lw_tbl := List.mem_of_getElem? (i := 237) (by decide +kernel)
theorem iw_309 : (Cond.instanceMethod yX11_useStack) ∈ lw_tbl := List.mem_of_getElem? (i := 238) (by decide +kernel)
theorem iw_310 : (Cond.selects RX11 yX11_useStack yX11_useStack) ∈ lw_tbl := List.mem_of_getElem? (i := 239) (by decide +kernel)
theorem iw_311 : (Cond.code yX11_useStack cX11_useStack 2 none) ∈ lw_tbl := List.mem_of_getElem? (i := 240) (by decide +kernel)
theorem iw_312 : (Cond.fieldLink RX11 121 "FieldScribe" "stacked" "Z") ∈ lw_tbl := List.mem_of_getElem? (i := 216) (by decide +kernel)
theorem iw_313 : (Cond.methodLink RL 72 yX12_useStack) ∈ lw_tbl := List.mem_of_getElem? (i := 937) (by decide +kernel)
theorem iw_314 : (Cond.instanceMethod yX12_useStack) ∈ lw_tbl := List.mem_of_getElem? (i := 938) (by decide +kernel)
theorem iw_315 : (Cond.selects RX12 yX12_useStack yX12_useStack) ∈ lw_tbl := List.mem_of_getElem? (i := 939) (by decide +kernel)
theorem iw_316 : (Cond.code yX12_useStack cX12_useStack 2 none) ∈ lw_tbl := List.mem_of_getElem? (i := 940) (by decide +kernel)
theorem iw_317 : (Cond.methodLink RL 73 yL_setSeparator) ∈ lw_tbl := List.mem_of_getElem? (i := 722) (by decide +kernel)
theorem iw_318 : (Cond.static yL_setSeparator) ∈ lw_tbl := List.mem_of_getElem? (i := 723) (by decide +kernel)
theorem iw_319 : (Cond.codeWith yL_setSeparator cL_setSeparator 4 (some .int) [(0, 9, 12, 13)]) ∈ lw_tbl := List.mem_of_getElem? (i := 724) (by decide +kernel)
theorem iw_320 : (Cond.methodLink RL 23 yX11_setSeparator) ∈ lw_tbl := List.mem_of_getElem? (i := 725) (by decide +kernel)
theorem iw_321 : (Cond.instanceMethod yX11_setSeparator) ∈ lw_tbl := List.mem_of_getElem? (i := 726) (by decide +kernel)
theorem iw_322 : (Cond.selects RX11 yX11_setSeparator yX11_setSeparator) ∈ lw_tbl := List.mem_of_getElem? (i := 727) (by decide +kernel)
theorem iw_323 : (Cond.code yX11_setSeparator cX11_setSeparator 2 (some .int)) ∈ lw_tbl := List.mem_of_getElem? (i := 728) (by decide +kernel)
theorem iw_324 : (Cond.methodLink RX11 125 yX11_requireCode) ∈ lw_tbl := List.mem_of_getElem? (i := 729) (by decide +kernel)
theorem iw_325 : (Cond.static yX11_requireCode) ∈ lw_tbl := List.mem_of_getElem? (i := 730) (by decide +kernel)
theorem iw_326 : (Cond.code yX11_requireCode cX11_requireCode 1 none) ∈ lw_tbl := List.mem_of_getElem? (i := 731) (by decide +kernel)
theorem iw_327 : (Cond.methodLink RX11 129 yX11_signOf) ∈ lw_tbl := List.mem_of_getElem? (i := 733) (by decide +kernel)
theorem iw_328 : (Cond.static yX11_signOf) ∈ lw_tbl := List.mem_of_getElem? (i := 734) (by decide +kernel)
theorem iw_329 : (Cond.code yX11_signOf cX11_signOf 1 (some .char)) ∈ lw_tbl := List.mem_of_getElem? (i := 735) (by decide +kernel)
theorem iw_330 : (Cond.methodLink RX11 137 yX4_cut) ∈ lw_tbl := List.mem_of_getElem? (i := 736) (by decide +kernel)
theorem iw_331 : (Cond.instanceMethod yX4_cut) ∈ lw_tbl := List.mem_of_getElem? (i := 278) (by decide +kernel)
theorem iw_332 : (Cond.selects RX4 yX4_cut yX4_cut) ∈ lw_tbl := List.mem_of_getElem? (i := 279) (by decide +kernel)
theorem iw_333 : (Cond.code yX4_cut cX4_cut 3 none) ∈ lw_tbl := List.mem_of_getElem? (i := 280) (by decide +kernel)
theorem iw_334 : (Cond.fieldLink RX4 34 "FieldScribe$Page" "count" "I") ∈ lw_tbl := List.mem_of_getElem? (i := 128) (by decide +kernel)
theorem iw_335 : (Cond.methodLink RX4 51 yX10_clear) ∈ lw_tbl := List.mem_of_getElem? (i := 264) (by decide +kernel)
theorem iw_336 : (Cond.instanceMethod yX10_clear) ∈ lw_tbl := List.mem_of_getElem? (i := 265) (by decide +kernel)
theorem iw_337 : (Cond.selects RX10 yX10_clear yX10_clear) ∈ lw_tbl := List.mem_of_getElem? (i := 266) (by decide +kernel)
theorem iw_338 : (Cond.code yX10_clear cX10_clear 1 none) ∈ lw_tbl := List.mem_of_getElem? (i := 267) (by decide +kernel)
theorem iw_339 : (Cond.fieldLink RX10 15 "FieldScribe$Text" "length" "I") ∈ lw_tbl := List.mem_of_getElem? (i := 114) (by decide +kernel)
theorem iw_340 : (Cond.methodLink RX4 64 yX10_at) ∈ lw_tbl := List.mem_of_getElem? (i := 281) (by decide +kernel)
theorem iw_341 : (Cond.instanceMethod yX10_at) ∈ lw_tbl := List.mem_of_getElem? (i := 282) (by decide +kernel)
theorem iw_342 : (Cond.selects RX10 yX10_at yX10_at) ∈ lw_tbl := List.mem_of_getElem? (i := 283) (by decide +kernel)
theorem iw_343 : (Cond.code yX10_at cX10_at 2 (some .char)) ∈ lw_tbl := List.mem_of_getElem? (i := 284) (by decide +kernel)
theorem iw_344 : (Cond.methodLink RX4 26 yX4_get) ∈ lw_tbl := List.mem_of_getElem? (i := 249) (by decide +kernel)
theorem iw_345 : (Cond.instanceMethod yX4_get) ∈ lw_tbl := List.mem_of_getElem? (i := 250) (by decide +kernel)
theorem iw_346 : (Cond.selects RX4 yX4_get yX4_get) ∈ lw_tbl := List.mem_of_getElem? (i := 251) (by decide +kernel)
theorem iw_347 : (Cond.code yX4_get cX4_get 2 (some (.object "FieldScribe$Text"))) ∈ lw_tbl := List.mem_of_getElem? (i := 252) (by decide +kernel)
theorem iw_348 : (Cond.methodLink RX4 54 yX10_put) ∈ lw_tbl := List.mem_of_getElem? (i := 268) (by decide +kernel)
theorem iw_349 : (Cond.instanceMethod yX10_put) ∈ lw_tbl := List.mem_of_getElem? (i := 269) (by decide +kernel)
theorem iw_350 : (Cond.selects RX10 yX10_put yX10_put) ∈ lw_tbl := List.mem_of_getElem? (i := 270) (by decide +kernel)
theorem iw_351 : (Cond.code yX10_put cX10_put 2 none) ∈ lw_tbl := List.mem_of_getElem? (i := 271) (by decide +kernel)
theorem iw_352 : (Cond.methodLink RL 76 yX12_setSeparator) ∈ lw_tbl := List.mem_of_getElem? (i := 941) (by decide +kernel)
theorem iw_353 : (Cond.instanceMethod yX12_setSeparator) ∈ lw_tbl := List.mem_of_getElem? (i := 942) (by decide +kernel)
theorem iw_354 : (Cond.selects RX12 yX12_setSeparator yX12_setSeparator) ∈ lw_tbl := List.mem_of_getElem? (i := 943) (by decide +kernel)
theorem iw_355 : (Cond.code yX12_setSeparator cX12_setSeparator 2 (some .int)) ∈ lw_tbl := List.mem_of_getElem? (i := 944) (by decide +kernel)
theorem iw_356 : (Cond.fieldLink RX12 88 "FieldScribeModel" "fields" "I") ∈ lw_tbl := List.mem_of_getElem? (i := 811) (by decide +kernel)
theorem iw_357 : (Cond.methodLink RX12 180 yX12_letter) ∈ lw_tbl := List.mem_of_getElem? (i := 945) (by decide +kernel)
theorem iw_358 : (Cond.static yX12_letter) ∈ lw_tbl := List.mem_of_getElem? (i := 946) (by decide +kernel)
theorem iw_359 : (Cond.code yX12_letter cX12_letter 1 (some .int)) ∈ lw_tbl := List.mem_of_getElem? (i := 947) (by decide +kernel)
theorem iw_360 : (Cond.methodLink RX12 97 yX12_cuts) ∈ lw_tbl := List.mem_of_getElem? (i := 948) (by decide +kernel)
theorem iw_361 : (Cond.instanceMethod yX12_cuts) ∈ lw_tbl := List.mem_of_getElem? (i := 950) (by decide +kernel)
theorem iw_362 : (Cond.selects RX12 yX12_cuts yX12_cuts) ∈ lw_tbl := List.mem_of_getElem? (i := 13) (by decide +kernel)
theorem iw_363 : (Cond.code yX12_cuts cX12_cuts 2 none) ∈ lw_tbl := List.mem_of_getElem? (i := 951) (by decide +kernel)
theorem iw_364 : (Cond.fieldLink RX12 91 "FieldScribeModel" "length" "I") ∈ lw_tbl := List.mem_of_getElem? (i := 810) (by decide +kernel)
theorem iw_365 : (Cond.methodLink RL 77 yL_type) ∈ lw_tbl := List.mem_of_getElem? (i := 737) (by decide +kernel)
theorem iw_366 : (Cond.static yL_type) ∈ lw_tbl := List.mem_of_getElem? (i := 738) (by decide +kernel)
theorem iw_367 : (Cond.codeWith yL_type cL_type 4 (some .int) [(0, 9, 12, 13), (0, 9, 15, 15)]) ∈ lw_tbl := List.mem_of_getElem? (i := 739) (by decide +kernel)
theorem iw_368 : (Cond.methodLink RL 27 yX11_type) ∈ lw_tbl := List.mem_of_getElem? (i := 740) (by decide +kernel)
theorem iw_369 : (Cond.instanceMethod yX11_type) ∈ lw_tbl := List.mem_of_getElem? (i := 741) (by decide +kernel)
theorem iw_370 : (Cond.selects RX11 yX11_type yX11_type) ∈ lw_tbl := List.mem_of_getElem? (i := 742) (by decide +kernel)
theorem iw_371 : (Cond.code yX11_type cX11_type 2 (some .int)) ∈ lw_tbl := List.mem_of_getElem? (i := 743) (by decide +kernel)
theorem iw_372 : (Cond.methodLink RX11 149 yX10_put) ∈ lw_tbl := List.mem_of_getElem? (i := 745) (by decide +kernel)
theorem iw_373 : (Cond.methodLink RL 79 yX12_type) ∈ lw_tbl := List.mem_of_getElem? (i := 952) (by decide +kernel)
theorem iw_374 : (Cond.instanceMethod yX12_type) ∈ lw_tbl := List.mem_of_getElem? (i := 953) (by decide +kernel)
theorem iw_375 : (Cond.selects RX12 yX12_type yX12_type) ∈ lw_tbl := List.mem_of_getElem? (i := 954) (by decide +kernel)
theorem iw_376 : (Cond.code yX12_type cX12_type 2 (some .int)) ∈ lw_tbl := List.mem_of_getElem? (i := 955) (by decide +kernel)
theorem iw_377 : (Cond.fieldLink RX12 183 "FieldScribeModel" "many" "I") ∈ lw_tbl := List.mem_of_getElem? (i := 815) (by decide +kernel)
theorem iw_378 : (Cond.methodLink RL 80 yX11_end) ∈ lw_tbl := List.mem_of_getElem? (i := 241) (by decide +kernel)
theorem iw_379 : (Cond.instanceMethod yX11_end) ∈ lw_tbl := List.mem_of_getElem? (i := 242) (by decide +kernel)
theorem iw_380 : (Cond.selects RX11 yX11_end yX11_end) ∈ lw_tbl := List.mem_of_getElem? (i := 243) (by decide +kernel)
theorem iw_381 : (Cond.code yX11_end cX11_end 5 (some .int)) ∈ lw_tbl := List.mem_of_getElem? (i := 244) (by decide +kernel)
theorem iw_382 : (Cond.methodLink RX11 156 yX4_set) ∈ lw_tbl := List.mem_of_getElem? (i := 245) (by decide +kernel)
theorem iw_383 : (Cond.instanceMethod yX4_set) ∈ lw_tbl := List.mem_of_getElem? (i := 246) (by decide +kernel)
theorem iw_384 : (Cond.selects RX4 yX4_set yX4_set) ∈ lw_tbl := List.mem_of_getElem? (i := 247) (by decide +kernel)
theorem iw_385 : (Cond.code yX4_set cX4_set 3 none) ∈ lw_tbl := List.mem_of_getElem? (i := 248) (by decide +kernel)
theorem iw_386 : (Cond.methodLink RX4 38 Lib.Math.max.name) ∈ lw_tbl := List.mem_of_getElem? (i := 257) (by decide +kernel)
theorem iw_387 : (Cond.methodLink RX4 30 yX10_copy) ∈ lw_tbl := List.mem_of_getElem? (i := 253) (by decide +kernel)
theorem iw_388 : (Cond.instanceMethod yX10_copy) ∈ lw_tbl := List.mem_of_getElem? (i := 254) (by decide +kernel)
theorem iw_389 : (Cond.selects RX10 yX10_copy yX10_copy) ∈ lw_tbl := List.mem_of_getElem? (i := 255) (by decide +kernel)
theorem iw_390 : (Cond.code yX10_copy cX10_copy 3 none) ∈ lw_tbl := List.mem_of_getElem? (i := 256) (by decide +kernel)
theorem iw_391 : (Cond.methodLink RX4 44 yX4_join) ∈ lw_tbl := List.mem_of_getElem? (i := 260) (by decide +kernel)
theorem iw_392 : (Cond.instanceMethod yX4_join) ∈ lw_tbl := List.mem_of_getElem? (i := 262) (by decide +kernel)
theorem iw_393 : (Cond.selects RX4 yX4_join yX4_join) ∈ lw_tbl := List.mem_of_getElem? (i := 0) (by decide +kernel)
theorem iw_394 : (Cond.code yX4_join cX4_join 3 none) ∈ lw_tbl := List.mem_of_getElem? (i := 263) (by decide +kernel)
theorem iw_395 : (Cond.methodLink RX4 58 yX10_add) ∈ lw_tbl := List.mem_of_getElem? (i := 272) (by decide +kernel)
theorem iw_396 : (Cond.instanceMethod yX10_add) ∈ lw_tbl := List.mem_of_getElem? (i := 273) (by decide +kernel)
theorem iw_397 : (Cond.selects RX10 yX10_add yX10_add) ∈ lw_tbl := List.mem_of_getElem? (i := 274) (by decide +kernel)
theorem iw_398 : (Cond.code yX10_add cX10_add 4 none) ∈ lw_tbl := List.mem_of_getElem? (i := 275) (by decide +kernel)
theorem iw_399 : (Cond.methodLink RX10 19 yX10_put) ∈ lw_tbl := List.mem_of_getElem? (i := 276) (by decide +kernel)
theorem iw_400 : (Cond.methodLink RX4 48 yX4_cut) ∈ lw_tbl := List.mem_of_getElem? (i := 277) (by decide +kernel)
theorem iw_401 : (Cond.methodLink RX11 160 yX10_clear) ∈ lw_tbl := List.mem_of_getElem? (i := 285) (by decide +kernel)
theorem iw_402 : (Cond.methodLink RX11 163 yX7_isTrue) ∈ lw_tbl := List.mem_of_getElem? (i := 305) (by decide +kernel)
theorem iw_403 : (Cond.instanceMethod yX7_isTrue) ∈ lw_tbl := List.mem_of_getElem? (i := 306) (by decide +kernel)
theorem iw_404 : (Cond.selects RX7 yX7_isTrue yX7_isTrue) ∈ lw_tbl := List.mem_of_getElem? (i := 307) (by decide +kernel)
theorem iw_405 : (Cond.code yX7_isTrue cX7_isTrue 2 (some .boolean)) ∈ lw_tbl := List.mem_of_getElem? (i := 308) (by decide +kernel)
theorem iw_406 : (Cond.methodLink RX7 28 yX4_get) ∈ lw_tbl := List.mem_of_getElem? (i := 309) (by decide +kernel)
theorem iw_407 : (Cond.methodLink RX7 34 yX10_isSameAs) ∈ lw_tbl := List.mem_of_getElem? (i := 310) (by decide +kernel)
theorem iw_408 : (Cond.instanceMethod yX10_isSameAs) ∈ lw_tbl := List.mem_of_getElem? (i := 311) (by decide +kernel)
theorem iw_409 : (Cond.selects RX10 yX10_isSameAs yX10_isSameAs) ∈ lw_tbl := List.mem_of_getElem? (i := 312) (by decide +kernel)
theorem iw_410 : (Cond.code yX10_isSameAs cX10_isSameAs 2 (some .boolean)) ∈ lw_tbl := List.mem_of_getElem? (i := 313) (by decide +kernel)
theorem iw_411 : (Cond.methodLink RX10 37 yX10_isNumeric) ∈ lw_tbl := List.mem_of_getElem? (i := 314) (by decide +kernel)
theorem iw_412 : (Cond.instanceMethod yX10_isNumeric) ∈ lw_tbl := List.mem_of_getElem? (i := 316) (by decide +kernel)
theorem iw_413 : (Cond.selects RX10 yX10_isNumeric yX10_isNumeric) ∈ lw_tbl := List.mem_of_getElem? (i := 1) (by decide +kernel)
theorem iw_414 : (Cond.code yX10_isNumeric cX10_isNumeric 1 (some .boolean)) ∈ lw_tbl := List.mem_of_getElem? (i := 317) (by decide +kernel)
theorem iw_415 : (Cond.methodLink RX10 29 yX10_numberLength) ∈ lw_tbl := List.mem_of_getElem? (i := 318) (by decide +kernel)
theorem iw_416 : (Cond.instanceMethod yX10_numberLength) ∈ lw_tbl := List.mem_of_getElem? (i := 320) (by decide +kernel)
theorem iw_417 : (Cond.selects RX10 yX10_numberLength yX10_numberLength) ∈ lw_tbl := List.mem_of_getElem? (i := 2) (by decide +kernel)
theorem iw_418 : (Cond.code yX10_numberLength cX10_numberLength 3 (some .int)) ∈ lw_tbl := List.mem_of_getElem? (i := 321) (by decide +kernel)
theorem iw_419 : (Cond.methodLink RX10 41 yX10_asNumber) ∈ lw_tbl := List.mem_of_getElem? (i := 322) (by decide +kernel)
theorem iw_420 : (Cond.instanceMethod yX10_asNumber) ∈ lw_tbl := List.mem_of_getElem? (i := 323) (by decide +kernel)
theorem iw_421 : (Cond.selects RX10 yX10_asNumber yX10_asNumber) ∈ lw_tbl := List.mem_of_getElem? (i := 324) (by decide +kernel)
theorem iw_422 : (Cond.code yX10_asNumber cX10_asNumber 5 (some .int)) ∈ lw_tbl := List.mem_of_getElem? (i := 325) (by decide +kernel)
theorem iw_423 : (Cond.methodLink RX10 33 yX10_at) ∈ lw_tbl := List.mem_of_getElem? (i := 326) (by decide +kernel)
theorem iw_424 : (Cond.methodLink RX7 40 yX10_isLessThan) ∈ lw_tbl := List.mem_of_getElem? (i := 327) (by decide +kernel)
theorem iw_425 : (Cond.instanceMethod yX10_isLessThan) ∈ lw_tbl := List.mem_of_getElem? (i := 328) (by decide +kernel)
theorem iw_426 : (Cond.selects RX10 yX10_isLessThan yX10_isLessThan) ∈ lw_tbl := List.mem_of_getElem? (i := 329) (by decide +kernel)
theorem iw_427 : (Cond.code yX10_isLessThan cX10_isLessThan 3 (some .boolean)) ∈ lw_tbl := List.mem_of_getElem? (i := 330) (by decide +kernel)
theorem iw_428 : (Cond.methodLink RX10 44 yX10_firstDifference) ∈ lw_tbl := List.mem_of_getElem? (i := 331) (by decide +kernel)
theorem iw_429 : (Cond.instanceMethod yX10_firstDifference) ∈ lw_tbl := List.mem_of_getElem? (i := 333) (by decide +kernel)
theorem iw_430 : (Cond.selects RX10 yX10_firstDifference yX10_firstDifference) ∈ lw_tbl := List.mem_of_getElem? (i := 3) (by decide +kernel)
theorem iw_431 : (Cond.code yX10_firstDifference cX10_firstDifference 3 (some .int)) ∈ lw_tbl := List.mem_of_getElem? (i := 334) (by decide +kernel)
theorem iw_432 : (Cond.static yX11_rankOf) ∈ lw_tbl := List.mem_of_getElem? (i := 336) (by decide +kernel)
theorem iw_433 : (Cond.code yX11_rankOf cX11_rankOf 1 (some .int)) ∈ lw_tbl := List.mem_of_getElem? (i := 337) (by decide +kernel)
theorem iw_434 : (Cond.methodLink RX7 44 yX7_isInRange) ∈ lw_tbl := List.mem_of_getElem? (i := 338) (by decide +kernel)
theorem iw_435 : (Cond.instanceMethod yX7_isInRange) ∈ lw_tbl := List.mem_of_getElem? (i := 340) (by decide +kernel)
theorem iw_436 : (Cond.selects RX7 yX7_isInRange yX7_isInRange) ∈ lw_tbl := List.mem_of_getElem? (i := 4) (by decide +kernel)
theorem iw_437 : (Cond.code yX7_isInRange cX7_isInRange 2 (some .boolean)) ∈ lw_tbl := List.mem_of_getElem? (i := 342) (by decide +kernel)
theorem iw_438 : (Cond.fieldLink RX7 47 "FieldScribe$Rule" "open" "Z") ∈ lw_tbl := List.mem_of_getElem? (i := 556) (by decide +kernel)
theorem iw_439 : (Cond.methodLink RX11 167 yX11_performAll) ∈ lw_tbl := List.mem_of_getElem? (i := 343) (by decide +kernel)
theorem iw_440 : (Cond.instanceMethod yX11_performAll) ∈ lw_tbl := List.mem_of_getElem? (i := 345) (by decide +kernel)
theorem iw_441 : (Cond.selects RX11 yX11_performAll yX11_performAll) ∈ lw_tbl := List.mem_of_getElem? (i := 5) (by decide +kernel)
theorem iw_442 : (Cond.code yX11_performAll cX11_performAll 3 (some .boolean)) ∈ lw_tbl := List.mem_of_getElem? (i := 346) (by decide +kernel)
theorem iw_443 : (Cond.methodLink RX11 220 yX11_perform) ∈ lw_tbl := List.mem_of_getElem? (i := 348) (by decide +kernel)
theorem iw_444 : (Cond.instanceMethod yX11_perform) ∈ lw_tbl := List.mem_of_getElem? (i := 350) (by decide +kernel)
theorem iw_445 : (Cond.selects RX11 yX11_perform yX11_perform) ∈ lw_tbl := List.mem_of_getElem? (i := 6) (by decide +kernel)
theorem iw_446 : (Cond.code yX11_perform cX11_perform 3 (some .boolean)) ∈ lw_tbl := List.mem_of_getElem? (i := 351) (by decide +kernel)
theorem iw_447 : (Cond.fieldLink RX11 205 "FieldScribe" "faultCount" "I") ∈ lw_tbl := List.mem_of_getElem? (i := 217) (by decide +kernel)
theorem iw_448 : (Cond.methodLink RX11 177 yX4_get) ∈ lw_tbl := List.mem_of_getElem? (i := 352) (by decide +kernel)
theorem iw_449 : (Cond.methodLink RX11 230 yX9_drop) ∈ lw_tbl := List.mem_of_getElem? (i := 353) (by decide +kernel)
theorem iw_450 : (Cond.instanceMethod yX9_drop) ∈ lw_tbl := List.mem_of_getElem? (i := 354) (by decide +kernel)
theorem iw_451 : (Cond.selects RX9 yX9_drop yX9_drop) ∈ lw_tbl := List.mem_of_getElem? (i := 355) (by decide +kernel)
theorem iw_452 : (Cond.code yX9_drop cX9_drop 5 none) ∈ lw_tbl := List.mem_of_getElem? (i := 356) (by decide +kernel)
theorem iw_453 : (Cond.fieldLink RX9 18 "FieldScribe$Table" "count" "I") ∈ lw_tbl := List.mem_of_getElem? (i := 169) (by decide +kernel)
theorem iw_454 : (Cond.methodLink RX9 36 yX9_find) ∈ lw_tbl := List.mem_of_getElem? (i := 357) (by decide +kernel)
theorem iw_455 : (Cond.instanceMethod yX9_find) ∈ lw_tbl := List.mem_of_getElem? (i := 359) (by decide +kernel)
theorem iw_456 : (Cond.selects RX9 yX9_find yX9_find) ∈ lw_tbl := List.mem_of_getElem? (i := 7) (by decide +kernel)
theorem iw_457 : (Cond.code yX9_find cX9_find 3 (some .int)) ∈ lw_tbl := List.mem_of_getElem? (i := 360) (by decide +kernel)
theorem iw_458 : (Cond.methodLink RX9 22 yX9_get) ∈ lw_tbl := List.mem_of_getElem? (i := 361) (by decide +kernel)
theorem iw_459 : (Cond.instanceMethod yX9_get) ∈ lw_tbl := List.mem_of_getElem? (i := 362) (by decide +kernel)
theorem iw_460 : (Cond.selects RX9 yX9_get yX9_get) ∈ lw_tbl := List.mem_of_getElem? (i := 363) (by decide +kernel)
theorem iw_461 : (Cond.code yX9_get cX9_get 2 (some (.object "FieldScribe$Row"))) ∈ lw_tbl := List.mem_of_getElem? (i := 364) (by decide +kernel)
theorem iw_462 : (Cond.methodLink RX9 30 yX10_hasSignsOf) ∈ lw_tbl := List.mem_of_getElem? (i := 365) (by decide +kernel)
theorem iw_463 : (Cond.instanceMethod yX10_hasSignsOf) ∈ lw_tbl := List.mem_of_getElem? (i := 366) (by decide +kernel)
theorem iw_464 : (Cond.selects RX10 yX10_hasSignsOf yX10_hasSignsOf) ∈ lw_tbl := List.mem_of_getElem? (i := 367) (by decide +kernel)
theorem iw_465 : (Cond.code yX10_hasSignsOf cX10_hasSignsOf 2 (some .boolean)) ∈ lw_tbl := List.mem_of_getElem? (i := 368) (by decide +kernel)
theorem iw_466 : (Cond.methodLink RX11 238 yX8_run) ∈ lw_tbl := List.mem_of_getElem? (i := 369) (by decide +kernel)
theorem iw_467 : (Cond.instanceMethod yX8_run) ∈ lw_tbl := List.mem_of_getElem? (i := 370) (by decide +kernel)
theorem iw_468 : (Cond.selects RX8 yX8_run yX8_run) ∈ lw_tbl := List.mem_of_getElem? (i := 371) (by decide +kernel)
theorem iw_469 : (Cond.code yX8_run cX8_run 7 (some .int)) ∈ lw_tbl := List.mem_of_getElem? (i := 372) (by decide +kernel)
theorem iw_470 : (Cond.methodLink RX8 18 yX4_load) ∈ lw_tbl := List.mem_of_getElem? (i := 373) (by decide +kernel)
theorem iw_471 : (Cond.instanceMethod yX4_load) ∈ lw_tbl := List.mem_of_getElem? (i := 374) (by decide +kernel)
theorem iw_472 : (Cond.selects RX4 yX4_load yX4_load) ∈ lw_tbl := List.mem_of_getElem? (i := 375) (by decide +kernel)
theorem iw_473 : (Cond.code yX4_load cX4_load 3 none) ∈ lw_tbl := List.mem_of_getElem? (i := 376) (by decide +kernel)
theorem iw_474 : (Cond.fieldLink RX4 71 "FieldScribe$Page" "number" "I") ∈ lw_tbl := List.mem_of_getElem? (i := 130) (by decide +kernel)
theorem iw_475 : (Cond.methodLink RX4 68 yX10_write) ∈ lw_tbl := List.mem_of_getElem? (i := 377) (by decide +kernel)
theorem iw_476 : (Cond.instanceMethod yX10_write) ∈ lw_tbl := List.mem_of_getElem? (i := 378) (by decide +kernel)
theorem iw_477 : (Cond.selects RX10 yX10_write yX10_write) ∈ lw_tbl := List.mem_of_getElem? (i := 379) (by decide +kernel)
theorem iw_478 : (Cond.code yX10_write cX10_write 6 none) ∈ lw_tbl := List.mem_of_getElem? (i := 380) (by decide +kernel)
theorem iw_479 : (Cond.constantLong RX10 23 (1000000000)) ∈ lw_tbl := List.mem_of_getElem? (i := 381) (by decide +kernel)
theorem iw_480 : (Cond.constantLong RX10 25 (48)) ∈ lw_tbl := List.mem_of_getElem? (i := 382) (by decide +kernel)
theorem iw_481 : (Cond.constantLong RX10 27 (10)) ∈ lw_tbl := List.mem_of_getElem? (i := 383) (by decide +kernel)
theorem iw_482 : (Cond.static yX11_combine) ∈ lw_tbl := List.mem_of_getElem? (i := 385) (by decide +kernel)
theorem iw_483 : (Cond.code yX11_combine cX11_combine 6 (some .int)) ∈ lw_tbl := List.mem_of_getElem? (i := 386) (by decide +kernel)
theorem iw_484 : (Cond.methodLink RX11 268 yX10_add) ∈ lw_tbl := List.mem_of_getElem? (i := 387) (by decide +kernel)
theorem iw_485 : (Cond.methodLink RX11 180 yX10_asNumber) ∈ lw_tbl := List.mem_of_getElem? (i := 388) (by decide +kernel)
theorem iw_486 : (Cond.methodLink RX11 270 yX11_calculate) ∈ lw_tbl := List.mem_of_getElem? (i := 389) (by decide +kernel)
theorem iw_487 : (Cond.static yX11_calculate) ∈ lw_tbl := List.mem_of_getElem? (i := 390) (by decide +kernel)
theorem iw_488 : (Cond.code yX11_calculate cX11_calculate 5 (some .long)) ∈ lw_tbl := List.mem_of_getElem? (i := 391) (by decide +kernel)
theorem iw_489 : (Cond.methodLink RX11 274 yX11_isInt) ∈ lw_tbl := List.mem_of_getElem? (i := 392) (by decide +kernel)
theorem iw_490 : (Cond.static yX11_isInt) ∈ lw_tbl := List.mem_of_getElem? (i := 393) (by decide +kernel)
theorem iw_491 : (Cond.code yX11_isInt cX11_isInt 2 (some .boolean)) ∈ lw_tbl := List.mem_of_getElem? (i := 394) (by decide +kernel)
theorem iw_492 : (Cond.constantLong RX11 280 (-2147483648)) ∈ lw_tbl := List.mem_of_getElem? (i := 395) (by decide +kernel)
theorem iw_493 : (Cond.constantLong RX11 282 (2147483647)) ∈ lw_tbl := List.mem_of_getElem? (i := 396) (by decide +kernel)
theorem iw_494 : (Cond.methodLink RX11 174 yX10_write) ∈ lw_tbl := List.mem_of_getElem? (i := 397) (by decide +kernel)
theorem iw_495 : (Cond.methodLink RX8 28 yX10_copy) ∈ lw_tbl := List.mem_of_getElem? (i := 398) (by decide +kernel)
theorem iw_496 : (Cond.methodLink RX11 246 ⟨"FieldScribe$Node", "find", "(LFieldScribe$Page;LFieldScribe$Text;)I"⟩) ∈ lw_tbl := List.mem_of_getElem? (i := 399) (by decide +kernel)
theorem iw_497 : (Cond.sameMethod "FieldScribe$Node" "FieldScribe$Node" "find" "(LFieldScribe$Page;LFieldScribe$Text;)I") ∈ lw_tbl := List.mem_of_getElem? (i := 401) (by decide +kernel)
theorem iw_498 : (Cond.selects RX1 ⟨"FieldScribe$Node", "find", "(LFieldScribe$Page;LFieldScribe$Text;)I"⟩ yX1_find) ∈ lw_tbl := List.mem_of_getElem? (i := 402) (by decide +kernel)
theorem iw_499 : (Cond.instanceMethod yX1_find) ∈ lw_tbl := List.mem_of_getElem? (i := 403) (by decide +kernel)
theorem iw_500 : (Cond.code yX1_find cX1_find 4 (some .int)) ∈ lw_tbl := List.mem_of_getElem? (i := 404) (by decide +kernel)
theorem iw_501 : (Cond.methodLink RX1 27 yX2_find) ∈ lw_tbl := List.mem_of_getElem? (i := 405) (by decide +kernel)
theorem iw_502 : (Cond.instanceMethod yX2_find) ∈ lw_tbl := List.mem_of_getElem? (i := 406) (by decide +kernel)
theorem iw_503 : (Cond.selects RX2 yX2_find yX2_find) ∈ lw_tbl := List.mem_of_getElem? (i := 407) (by decide +kernel)
theorem iw_504 : (Cond.code yX2_find cX2_find 3 (some .int)) ∈ lw_tbl := List.mem_of_getElem? (i := 408) (by decide +kernel)
theorem iw_505 : (Cond.methodLink RX2 13 yX4_load) ∈ lw_tbl := List.mem_of_getElem? (i := 409) (by decide +kernel)
theorem iw_506 : (Cond.selects RX2 ⟨"FieldScribe$Node", "find", "(LFieldScribe$Page;LFieldScribe$Text;)I"⟩ yX2_find) ∈ lw_tbl := List.mem_of_getElem? (i := 411) (by decide +kernel)
theorem iw_507 : (Cond.methodLink RX11 252 yX9_grow) ∈ lw_tbl := List.mem_of_getElem? (i := 412) (by decide +kernel)
theorem iw_508 : (Cond.instanceMethod yX9_grow) ∈ lw_tbl := List.mem_of_getElem? (i := 413) (by decide +kernel)
theorem iw_509 : (Cond.selects RX9 yX9_grow yX9_grow) ∈ lw_tbl := List.mem_of_getElem? (i := 414) (by decide +kernel)
theorem iw_510 : (Cond.code yX9_grow cX9_grow 8 (some .int)) ∈ lw_tbl := List.mem_of_getElem? (i := 415) (by decide +kernel)
theorem iw_511 : (Cond.methodLink RX9 40 yX10_copy) ∈ lw_tbl := List.mem_of_getElem? (i := 416) (by decide +kernel)
theorem iw_512 : (Cond.methodLink RX11 256 yX5_print) ∈ lw_tbl := List.mem_of_getElem? (i := 418) (by decide +kernel)
theorem iw_513 : (Cond.instanceMethod yX5_print) ∈ lw_tbl := List.mem_of_getElem? (i := 419) (by decide +kernel)
theorem iw_514 : (Cond.selects RX5 yX5_print yX5_print) ∈ lw_tbl := List.mem_of_getElem? (i := 420) (by decide +kernel)
theorem iw_515 : (Cond.code yX5_print cX5_print 2 none) ∈ lw_tbl := List.mem_of_getElem? (i := 421) (by decide +kernel)
theorem iw_516 : (Cond.fieldLink RX5 22 "FieldScribe$Printout" "count" "I") ∈ lw_tbl := List.mem_of_getElem? (i := 186) (by decide +kernel)
theorem iw_517 : (Cond.fieldLink RX5 18 "FieldScribe$Printout" "start" "I") ∈ lw_tbl := List.mem_of_getElem? (i := 185) (by decide +kernel)
theorem iw_518 : (Cond.methodLink RX5 25 yX5_get) ∈ lw_tbl := List.mem_of_getElem? (i := 422) (by decide +kernel)
theorem iw_519 : (Cond.instanceMethod yX5_get) ∈ lw_tbl := List.mem_of_getElem? (i := 423) (by decide +kernel)
theorem iw_520 : (Cond.selects RX5 yX5_get yX5_get) ∈ lw_tbl := List.mem_of_getElem? (i := 424) (by decide +kernel)
theorem iw_521 : (Cond.code yX5_get cX5_get 3 (some (.object "FieldScribe$Text"))) ∈ lw_tbl := List.mem_of_getElem? (i := 425) (by decide +kernel)
theorem iw_522 : (Cond.methodLink RX5 29 yX10_copy) ∈ lw_tbl := List.mem_of_getElem? (i := 426) (by decide +kernel)
theorem iw_523 : (Cond.methodLink RL 83 yX12_end) ∈ lw_tbl := List.mem_of_getElem? (i := 956) (by decide +kernel)
theorem iw_524 : (Cond.instanceMethod yX12_end) ∈ lw_tbl := List.mem_of_getElem? (i := 957) (by decide +kernel)
theorem iw_525 : (Cond.selects RX12 yX12_end yX12_end) ∈ lw_tbl := List.mem_of_getElem? (i := 958) (by decide +kernel)
theorem iw_526 : (Cond.code yX12_end cX12_end 4 (some .int)) ∈ lw_tbl := List.mem_of_getElem? (i := 959) (by decide +kernel)
theorem iw_527 : (Cond.fieldLink RX12 141 "FieldScribeModel" "number" "I") ∈ lw_tbl := List.mem_of_getElem? (i := 816) (by decide +kernel)
theorem iw_528 : (Cond.methodLink RX12 221 yX12_isTrue) ∈ lw_tbl := List.mem_of_getElem? (i := 960) (by decide +kernel)
theorem iw_529 : (Cond.instanceMethod yX12_isTrue) ∈ lw_tbl := List.mem_of_getElem? (i := 962) (by decide +kernel)
theorem iw_530 : (Cond.selects RX12 yX12_isTrue yX12_isTrue) ∈ lw_tbl := List.mem_of_getElem? (i := 14) (by decide +kernel)
theorem iw_531 : (Cond.code yX12_isTrue cX12_isTrue 5 (some .boolean)) ∈ lw_tbl := List.mem_of_getElem? (i := 963) (by decide +kernel)
theorem iw_532 : (Cond.methodLink RX12 186 yX12_isSame) ∈ lw_tbl := List.mem_of_getElem? (i := 964) (by decide +kernel)
theorem iw_533 : (Cond.instanceMethod yX12_isSame) ∈ lw_tbl := List.mem_of_getElem? (i := 966) (by decide +kernel)
theorem iw_534 : (Cond.selects RX12 yX12_isSame yX12_isSame) ∈ lw_tbl := List.mem_of_getElem? (i := 15) (by decide +kernel)
theorem iw_535 : (Cond.code yX12_isSame cX12_isSame 3 (some .boolean)) ∈ lw_tbl := List.mem_of_getElem? (i := 967) (by decide +kernel)
theorem iw_536 : (Cond.methodLink RX12 127 yX12_isNumeric) ∈ lw_tbl := List.mem_of_getElem? (i := 968) (by decide +kernel)
theorem iw_537 : (Cond.instanceMethod yX12_isNumeric) ∈ lw_tbl := List.mem_of_getElem? (i := 970) (by decide +kernel)
theorem iw_538 : (Cond.selects RX12 yX12_isNumeric yX12_isNumeric) ∈ lw_tbl := List.mem_of_getElem? (i := 16) (by decide +kernel)
theorem iw_539 : (Cond.code yX12_isNumeric cX12_isNumeric 2 (some .boolean)) ∈ lw_tbl := List.mem_of_getElem? (i := 971) (by decide +kernel)
theorem iw_540 : (Cond.methodLink RX12 124 yX12_numeric) ∈ lw_tbl := List.mem_of_getElem? (i := 972) (by decide +kernel)
theorem iw_541 : (Cond.instanceMethod yX12_numeric) ∈ lw_tbl := List.mem_of_getElem? (i := 974) (by decide +kernel)
theorem iw_542 : (Cond.selects RX12 yX12_numeric yX12_numeric) ∈ lw_tbl := List.mem_of_getElem? (i := 17) (by decide +kernel)
theorem iw_543 : (Cond.code yX12_numeric cX12_numeric 6 (some .int)) ∈ lw_tbl := List.mem_of_getElem? (i := 975) (by decide +kernel)
theorem iw_544 : (Cond.methodLink RX12 110 yX12_from) ∈ lw_tbl := List.mem_of_getElem? (i := 976) (by decide +kernel)
theorem iw_545 : (Cond.instanceMethod yX12_from) ∈ lw_tbl := List.mem_of_getElem? (i := 978) (by decide +kernel)
theorem iw_546 : (Cond.selects RX12 yX12_from yX12_from) ∈ lw_tbl := List.mem_of_getElem? (i := 18) (by decide +kernel)
theorem iw_547 : (Cond.code yX12_from cX12_from 2 (some .int)) ∈ lw_tbl := List.mem_of_getElem? (i := 979) (by decide +kernel)
theorem iw_548 : (Cond.methodLink RX12 114 yX12_to) ∈ lw_tbl := List.mem_of_getElem? (i := 980) (by decide +kernel)
theorem iw_549 : (Cond.instanceMethod yX12_to) ∈ lw_tbl := List.mem_of_getElem? (i := 982) (by decide +kernel)
theorem iw_550 : (Cond.selects RX12 yX12_to yX12_to) ∈ lw_tbl := List.mem_of_getElem? (i := 19) (by decide +kernel)
theorem iw_551 : (Cond.code yX12_to cX12_to 2 (some .int)) ∈ lw_tbl := List.mem_of_getElem? (i := 983) (by decide +kernel)
theorem iw_552 : (Cond.methodLink RX12 120 yX12_isDigit) ∈ lw_tbl := List.mem_of_getElem? (i := 984) (by decide +kernel)
theorem iw_553 : (Cond.static yX12_isDigit) ∈ lw_tbl := List.mem_of_getElem? (i := 985) (by decide +kernel)
theorem iw_554 : (Cond.code yX12_isDigit cX12_isDigit 1 (some .boolean)) ∈ lw_tbl := List.mem_of_getElem? (i := 986) (by decide +kernel)
theorem iw_555 : (Cond.methodLink RX12 130 yX12_numberOf) ∈ lw_tbl := List.mem_of_getElem? (i := 987) (by decide +kernel)
theorem iw_556 : (Cond.instanceMethod yX12_numberOf) ∈ lw_tbl := List.mem_of_getElem? (i := 989) (by decide +kernel)
theorem iw_557 : (Cond.selects RX12 yX12_numberOf yX12_numberOf) ∈ lw_tbl := List.mem_of_getElem? (i := 20) (by decide +kernel)
theorem iw_558 : (Cond.code yX12_numberOf cX12_numberOf 6 (some .int)) ∈ lw_tbl := List.mem_of_getElem? (i := 990) (by decide +kernel)
theorem iw_559 : (Cond.methodLink RX12 190 yX12_isLess) ∈ lw_tbl := List.mem_of_getElem? (i := 991) (by decide +kernel)
theorem iw_560 : (Cond.instanceMethod yX12_isLess) ∈ lw_tbl := List.mem_of_getElem? (i := 993) (by decide +kernel)
theorem iw_561 : (Cond.selects RX12 yX12_isLess yX12_isLess) ∈ lw_tbl := List.mem_of_getElem? (i := 21) (by decide +kernel)
theorem iw_562 : (Cond.code yX12_isLess cX12_isLess 5 (some .boolean)) ∈ lw_tbl := List.mem_of_getElem? (i := 994) (by decide +kernel)
theorem iw_563 : (Cond.methodLink RX12 133 yX12_rank) ∈ lw_tbl := List.mem_of_getElem? (i := 995) (by decide +kernel)
theorem iw_564 : (Cond.static yX12_rank) ∈ lw_tbl := List.mem_of_getElem? (i := 996) (by decide +kernel)
theorem iw_565 : (Cond.code yX12_rank cX12_rank 1 (some .int)) ∈ lw_tbl := List.mem_of_getElem? (i := 997) (by decide +kernel)
theorem iw_566 : (Cond.methodLink RX12 224 yX12_acts) ∈ lw_tbl := List.mem_of_getElem? (i := 998) (by decide +kernel)
theorem iw_567 : (Cond.instanceMethod yX12_acts) ∈ lw_tbl := List.mem_of_getElem? (i := 1000) (by decide +kernel)
theorem iw_568 : (Cond.selects RX12 yX12_acts yX12_acts) ∈ lw_tbl := List.mem_of_getElem? (i := 22) (by decide +kernel)
theorem iw_569 : (Cond.code yX12_acts cX12_acts 3 (some .boolean)) ∈ lw_tbl := List.mem_of_getElem? (i := 1001) (by decide +kernel)
theorem iw_570 : (Cond.methodLink RX12 218 yX12_does) ∈ lw_tbl := List.mem_of_getElem? (i := 1002) (by decide +kernel)
theorem iw_571 : (Cond.instanceMethod yX12_does) ∈ lw_tbl := List.mem_of_getElem? (i := 1004) (by decide +kernel)
theorem iw_572 : (Cond.selects RX12 yX12_does yX12_does) ∈ lw_tbl := List.mem_of_getElem? (i := 23) (by decide +kernel)
theorem iw_573 : (Cond.code yX12_does cX12_does 2 none) ∈ lw_tbl := List.mem_of_getElem? (i := 1005) (by decide +kernel)
theorem iw_574 : (Cond.methodLink RX12 202 yX12_finds) ∈ lw_tbl := List.mem_of_getElem? (i := 1006) (by decide +kernel)
theorem iw_575 : (Cond.instanceMethod yX12_finds) ∈ lw_tbl := List.mem_of_getElem? (i := 1008) (by decide +kernel)
theorem iw_576 : (Cond.selects RX12 yX12_finds yX12_finds) ∈ lw_tbl := List.mem_of_getElem? (i := 24) (by decide +kernel)
theorem iw_577 : (Cond.code yX12_finds cX12_finds 9 (some .int)) ∈ lw_tbl := List.mem_of_getElem? (i := 1009) (by decide +kernel)
theorem iw_578 : (Cond.fieldLink RX12 94 "FieldScribeModel" "madeLength" "I") ∈ lw_tbl := List.mem_of_getElem? (i := 839) (by decide +kernel)
theorem iw_579 : (Cond.fieldLink RX12 100 "FieldScribeModel" "valueLength" "I") ∈ lw_tbl := List.mem_of_getElem? (i := 837) (by decide +kernel)
theorem iw_580 : (Cond.methodLink RX12 150 yX12_addsOperand) ∈ lw_tbl := List.mem_of_getElem? (i := 1010) (by decide +kernel)
theorem iw_581 : (Cond.instanceMethod yX12_addsOperand) ∈ lw_tbl := List.mem_of_getElem? (i := 1012) (by decide +kernel)
theorem iw_582 : (Cond.selects RX12 yX12_addsOperand yX12_addsOperand) ∈ lw_tbl := List.mem_of_getElem? (i := 25) (by decide +kernel)
theorem iw_583 : (Cond.code yX12_addsOperand cX12_addsOperand 3 none) ∈ lw_tbl := List.mem_of_getElem? (i := 1013) (by decide +kernel)
theorem iw_584 : (Cond.methodLink RX12 138 yX12_isFieldOf) ∈ lw_tbl := List.mem_of_getElem? (i := 1014) (by decide +kernel)
theorem iw_585 : (Cond.static yX12_isFieldOf) ∈ lw_tbl := List.mem_of_getElem? (i := 1015) (by decide +kernel)
theorem iw_586 : (Cond.code yX12_isFieldOf cX12_isFieldOf 1 (some .boolean)) ∈ lw_tbl := List.mem_of_getElem? (i := 1016) (by decide +kernel)
theorem iw_587 : (Cond.methodLink RX12 103 yX12_adds) ∈ lw_tbl := List.mem_of_getElem? (i := 1017) (by decide +kernel)
theorem iw_588 : (Cond.instanceMethod yX12_adds) ∈ lw_tbl := List.mem_of_getElem? (i := 1019) (by decide +kernel)
theorem iw_589 : (Cond.selects RX12 yX12_adds yX12_adds) ∈ lw_tbl := List.mem_of_getElem? (i := 26) (by decide +kernel)
theorem iw_590 : (Cond.code yX12_adds cX12_adds 2 none) ∈ lw_tbl := List.mem_of_getElem? (i := 1020) (by decide +kernel)
theorem iw_591 : (Cond.methodLink RX12 144 yX12_numberOfOperand) ∈ lw_tbl := List.mem_of_getElem? (i := 1021) (by decide +kernel)
theorem iw_592 : (Cond.instanceMethod yX12_numberOfOperand) ∈ lw_tbl := List.mem_of_getElem? (i := 1023) (by decide +kernel)
theorem iw_593 : (Cond.selects RX12 yX12_numberOfOperand yX12_numberOfOperand) ∈ lw_tbl := List.mem_of_getElem? (i := 27) (by decide +kernel)
theorem iw_594 : (Cond.code yX12_numberOfOperand cX12_numberOfOperand 2 (some .int)) ∈ lw_tbl := List.mem_of_getElem? (i := 1024) (by decide +kernel)
theorem iw_595 : (Cond.methodLink RX12 147 yX12_writes) ∈ lw_tbl := List.mem_of_getElem? (i := 1025) (by decide +kernel)
theorem iw_596 : (Cond.instanceMethod yX12_writes) ∈ lw_tbl := List.mem_of_getElem? (i := 1027) (by decide +kernel)
theorem iw_597 : (Cond.selects RX12 yX12_writes yX12_writes) ∈ lw_tbl := List.mem_of_getElem? (i := 28) (by decide +kernel)
theorem iw_598 : (Cond.code yX12_writes cX12_writes 6 none) ∈ lw_tbl := List.mem_of_getElem? (i := 1028) (by decide +kernel)
theorem iw_599 : (Cond.constantLong RX12 136 (10)) ∈ lw_tbl := List.mem_of_getElem? (i := 1029) (by decide +kernel)
theorem iw_600 : (Cond.methodLink RX12 107 yX12_addsValue) ∈ lw_tbl := List.mem_of_getElem? (i := 1030) (by decide +kernel)
theorem iw_601 : (Cond.instanceMethod yX12_addsValue) ∈ lw_tbl := List.mem_of_getElem? (i := 1032) (by decide +kernel)
theorem iw_602 : (Cond.selects RX12 yX12_addsValue yX12_addsValue) ∈ lw_tbl := List.mem_of_getElem? (i := 29) (by decide +kernel)
theorem iw_603 : (Cond.code yX12_addsValue cX12_addsValue 2 none) ∈ lw_tbl := List.mem_of_getElem? (i := 1033) (by decide +kernel)
theorem iw_604 : (Cond.methodLink RX12 153 yX12_numberOfValue) ∈ lw_tbl := List.mem_of_getElem? (i := 1034) (by decide +kernel)
theorem iw_605 : (Cond.instanceMethod yX12_numberOfValue) ∈ lw_tbl := List.mem_of_getElem? (i := 1036) (by decide +kernel)
theorem iw_606 : (Cond.selects RX12 yX12_numberOfValue yX12_numberOfValue) ∈ lw_tbl := List.mem_of_getElem? (i := 30) (by decide +kernel)
theorem iw_607 : (Cond.code yX12_numberOfValue cX12_numberOfValue 4 (some .int)) ∈ lw_tbl := List.mem_of_getElem? (i := 1037) (by decide +kernel)
theorem iw_608 : (Cond.methodLink RX12 157 yX12_fits) ∈ lw_tbl := List.mem_of_getElem? (i := 1038) (by decide +kernel)
theorem iw_609 : (Cond.instanceMethod yX12_fits) ∈ lw_tbl := List.mem_of_getElem? (i := 1040) (by decide +kernel)
theorem iw_610 : (Cond.selects RX12 yX12_fits yX12_fits) ∈ lw_tbl := List.mem_of_getElem? (i := 31) (by decide +kernel)
theorem iw_611 : (Cond.code yX12_fits cX12_fits 4 (some .int)) ∈ lw_tbl := List.mem_of_getElem? (i := 1041) (by decide +kernel)
theorem iw_612 : (Cond.constantLong RX12 161 (-2147483648)) ∈ lw_tbl := List.mem_of_getElem? (i := 1042) (by decide +kernel)
theorem iw_613 : (Cond.constantLong RX12 163 (2147483647)) ∈ lw_tbl := List.mem_of_getElem? (i := 1043) (by decide +kernel)
theorem iw_614 : (Cond.fieldLink RX12 165 "FieldScribeModel" "faults" "I") ∈ lw_tbl := List.mem_of_getElem? (i := 817) (by decide +kernel)
theorem iw_615 : (Cond.methodLink RX12 205 yX12_sets) ∈ lw_tbl := List.mem_of_getElem? (i := 1044) (by decide +kernel)
theorem iw_616 : (Cond.instanceMethod yX12_sets) ∈ lw_tbl := List.mem_of_getElem? (i := 1046) (by decide +kernel)
theorem iw_617 : (Cond.selects RX12 yX12_sets yX12_sets) ∈ lw_tbl := List.mem_of_getElem? (i := 32) (by decide +kernel)
theorem iw_618 : (Cond.code yX12_sets cX12_sets 5 none) ∈ lw_tbl := List.mem_of_getElem? (i := 1047) (by decide +kernel)
theorem iw_619 : (Cond.methodLink RX12 117 yX12_becomes) ∈ lw_tbl := List.mem_of_getElem? (i := 1048) (by decide +kernel)
theorem iw_620 : (Cond.instanceMethod yX12_becomes) ∈ lw_tbl := List.mem_of_getElem? (i := 1050) (by decide +kernel)
theorem iw_621 : (Cond.selects RX12 yX12_becomes yX12_becomes) ∈ lw_tbl := List.mem_of_getElem? (i := 33) (by decide +kernel)
theorem iw_622 : (Cond.code yX12_becomes cX12_becomes 2 none) ∈ lw_tbl := List.mem_of_getElem? (i := 1051) (by decide +kernel)
theorem iw_623 : (Cond.methodLink RX12 208 yX12_grows) ∈ lw_tbl := List.mem_of_getElem? (i := 1052) (by decide +kernel)
theorem iw_624 : (Cond.instanceMethod yX12_grows) ∈ lw_tbl := List.mem_of_getElem? (i := 1054) (by decide +kernel)
theorem iw_625 : (Cond.selects RX12 yX12_grows yX12_grows) ∈ lw_tbl := List.mem_of_getElem? (i := 34) (by decide +kernel)
theorem iw_626 : (Cond.code yX12_grows cX12_grows 5 none) ∈ lw_tbl := List.mem_of_getElem? (i := 1055) (by decide +kernel)
theorem iw_627 : (Cond.fieldLink RX12 193 "FieldScribeModel" "rows" "I") ∈ lw_tbl := List.mem_of_getElem? (i := 829) (by decide +kernel)
theorem iw_628 : (Cond.methodLink RX12 196 yX12_rowOf) ∈ lw_tbl := List.mem_of_getElem? (i := 1056) (by decide +kernel)
theorem iw_629 : (Cond.instanceMethod yX12_rowOf) ∈ lw_tbl := List.mem_of_getElem? (i := 1058) (by decide +kernel)
theorem iw_630 : (Cond.selects RX12 yX12_rowOf yX12_rowOf) ∈ lw_tbl := List.mem_of_getElem? (i := 35) (by decide +kernel)
theorem iw_631 : (Cond.code yX12_rowOf cX12_rowOf 6 (some .int)) ∈ lw_tbl := List.mem_of_getElem? (i := 1059) (by decide +kernel)
theorem iw_632 : (Cond.methodLink RX12 212 yX12_prints) ∈ lw_tbl := List.mem_of_getElem? (i := 1060) (by decide +kernel)
theorem iw_633 : (Cond.instanceMethod yX12_prints) ∈ lw_tbl := List.mem_of_getElem? (i := 1062) (by decide +kernel)
theorem iw_634 : (Cond.selects RX12 yX12_prints yX12_prints) ∈ lw_tbl := List.mem_of_getElem? (i := 36) (by decide +kernel)
theorem iw_635 : (Cond.code yX12_prints cX12_prints 3 none) ∈ lw_tbl := List.mem_of_getElem? (i := 1063) (by decide +kernel)
theorem iw_636 : (Cond.fieldLink RX12 199 "FieldScribeModel" "lines" "I") ∈ lw_tbl := List.mem_of_getElem? (i := 833) (by decide +kernel)
theorem iw_637 : (Cond.methodLink RX12 215 yX12_drops) ∈ lw_tbl := List.mem_of_getElem? (i := 1064) (by decide +kernel)
theorem iw_638 : (Cond.instanceMethod yX12_drops) ∈ lw_tbl := List.mem_of_getElem? (i := 1066) (by decide +kernel)
theorem iw_639 : (Cond.selects RX12 yX12_drops yX12_drops) ∈ lw_tbl := List.mem_of_getElem? (i := 37) (by decide +kernel)
theorem iw_640 : (Cond.code yX12_drops cX12_drops 5 none) ∈ lw_tbl := List.mem_of_getElem? (i := 1067) (by decide +kernel)
theorem iw_641 : (Cond.methodLink RL 84 yL_setField) ∈ lw_tbl := List.mem_of_getElem? (i := 746) (by decide +kernel)
theorem iw_642 : (Cond.static yL_setField) ∈ lw_tbl := List.mem_of_getElem? (i := 747) (by decide +kernel)
theorem iw_643 : (Cond.codeWith yL_setField cL_setField 5 (some .int) [(0, 10, 13, 21)]) ∈ lw_tbl := List.mem_of_getElem? (i := 748) (by decide +kernel)
theorem iw_644 : (Cond.methodLink RL 30 yX11_setField) ∈ lw_tbl := List.mem_of_getElem? (i := 749) (by decide +kernel)
theorem iw_645 : (Cond.instanceMethod yX11_setField) ∈ lw_tbl := List.mem_of_getElem? (i := 750) (by decide +kernel)
theorem iw_646 : (Cond.selects RX11 yX11_setField yX11_setField) ∈ lw_tbl := List.mem_of_getElem? (i := 751) (by decide +kernel)
theorem iw_647 : (Cond.code yX11_setField cX11_setField 3 (some .int)) ∈ lw_tbl := List.mem_of_getElem? (i := 752) (by decide +kernel)
theorem iw_648 : (Cond.methodLink RX11 171 yX11_requireField) ∈ lw_tbl := List.mem_of_getElem? (i := 753) (by decide +kernel)
theorem iw_649 : (Cond.static yX11_requireField) ∈ lw_tbl := List.mem_of_getElem? (i := 754) (by decide +kernel)
theorem iw_650 : (Cond.code yX11_requireField cX11_requireField 1 none) ∈ lw_tbl := List.mem_of_getElem? (i := 755) (by decide +kernel)
theorem iw_651 : (Cond.methodLink RL 87 yX12_setField) ∈ lw_tbl := List.mem_of_getElem? (i := 1068) (by decide +kernel)
theorem iw_652 : (Cond.instanceMethod yX12_setField) ∈ lw_tbl := List.mem_of_getElem? (i := 1069) (by decide +kernel)
theorem iw_653 : (Cond.selects RX12 yX12_setField yX12_setField) ∈ lw_tbl := List.mem_of_getElem? (i := 1070) (by decide +kernel)
theorem iw_654 : (Cond.code yX12_setField cX12_setField 3 (some .int)) ∈ lw_tbl := List.mem_of_getElem? (i := 1071) (by decide +kernel)
theorem iw_655 : (Cond.methodLink RL 88 yX11_fields) ∈ lw_tbl := List.mem_of_getElem? (i := 427) (by decide +kernel)
theorem iw_656 : (Cond.instanceMethod yX11_fields) ∈ lw_tbl := List.mem_of_getElem? (i := 428) (by decide +kernel)
theorem iw_657 : (Cond.selects RX11 yX11_fields yX11_fields) ∈ lw_tbl := List.mem_of_getElem? (i := 429) (by decide +kernel)
theorem iw_658 : (Cond.code yX11_fields cX11_fields 1 (some .int)) ∈ lw_tbl := List.mem_of_getElem? (i := 430) (by decide +kernel)
theorem iw_659 : (Cond.methodLink RL 91 yX12_fields) ∈ lw_tbl := List.mem_of_getElem? (i := 1072) (by decide +kernel)
theorem iw_660 : (Cond.instanceMethod yX12_fields) ∈ lw_tbl := List.mem_of_getElem? (i := 1073) (by decide +kernel)
theorem iw_661 : (Cond.selects RX12 yX12_fields yX12_fields) ∈ lw_tbl := List.mem_of_getElem? (i := 1074) (by decide +kernel)
theorem iw_662 : (Cond.code yX12_fields cX12_fields 1 (some .int)) ∈ lw_tbl := List.mem_of_getElem? (i := 1075) (by decide +kernel)
theorem iw_663 : (Cond.methodLink RL 92 yL_number) ∈ lw_tbl := List.mem_of_getElem? (i := 757) (by decide +kernel)
theorem iw_664 : (Cond.static yL_number) ∈ lw_tbl := List.mem_of_getElem? (i := 758) (by decide +kernel)
theorem iw_665 : (Cond.codeWith yL_number cL_number 4 (some .int) [(0, 9, 12, 21)]) ∈ lw_tbl := List.mem_of_getElem? (i := 759) (by decide +kernel)
theorem iw_666 : (Cond.methodLink RL 34 yX11_number) ∈ lw_tbl := List.mem_of_getElem? (i := 760) (by decide +kernel)
theorem iw_667 : (Cond.instanceMethod yX11_number) ∈ lw_tbl := List.mem_of_getElem? (i := 761) (by decide +kernel)
theorem iw_668 : (Cond.selects RX11 yX11_number yX11_number) ∈ lw_tbl := List.mem_of_getElem? (i := 762) (by decide +kernel)
theorem iw_669 : (Cond.code yX11_number cX11_number 2 (some .int)) ∈ lw_tbl := List.mem_of_getElem? (i := 763) (by decide +kernel)
theorem iw_670 : (Cond.methodLink RL 94 yX12_number) ∈ lw_tbl := List.mem_of_getElem? (i := 1076) (by decide +kernel)
theorem iw_671 : (Cond.instanceMethod yX12_number) ∈ lw_tbl := List.mem_of_getElem? (i := 1077) (by decide +kernel)
theorem iw_672 : (Cond.selects RX12 yX12_number yX12_number) ∈ lw_tbl := List.mem_of_getElem? (i := 1078) (by decide +kernel)
theorem iw_673 : (Cond.code yX12_number cX12_number 2 (some .int)) ∈ lw_tbl := List.mem_of_getElem? (i := 1079) (by decide +kernel)
theorem iw_674 : (Cond.methodLink RL 95 yL_character) ∈ lw_tbl := List.mem_of_getElem? (i := 764) (by decide +kernel)
theorem iw_675 : (Cond.static yL_character) ∈ lw_tbl := List.mem_of_getElem? (i := 765) (by decide +kernel)
theorem iw_676 : (Cond.codeWith yL_character cL_character 5 (some .int) [(0, 10, 13, 21)]) ∈ lw_tbl := List.mem_of_getElem? (i := 766) (by decide +kernel)
theorem iw_677 : (Cond.methodLink RL 37 yX11_character) ∈ lw_tbl := List.mem_of_getElem? (i := 767) (by decide +kernel)
theorem iw_678 : (Cond.instanceMethod yX11_character) ∈ lw_tbl := List.mem_of_getElem? (i := 768) (by decide +kernel)
theorem iw_679 : (Cond.selects RX11 yX11_character yX11_character) ∈ lw_tbl := List.mem_of_getElem? (i := 769) (by decide +kernel)
theorem iw_680 : (Cond.code yX11_character cX11_character 3 (some .char)) ∈ lw_tbl := List.mem_of_getElem? (i := 770) (by decide +kernel)
theorem iw_681 : (Cond.methodLink RX11 183 yX11_signAt) ∈ lw_tbl := List.mem_of_getElem? (i := 771) (by decide +kernel)
theorem iw_682 : (Cond.static yX11_signAt) ∈ lw_tbl := List.mem_of_getElem? (i := 772) (by decide +kernel)
theorem iw_683 : (Cond.code yX11_signAt cX11_signAt 2 (some .char)) ∈ lw_tbl := List.mem_of_getElem? (i := 773) (by decide +kernel)
theorem iw_684 : (Cond.methodLink RX11 188 yX11_requirePlace) ∈ lw_tbl := List.mem_of_getElem? (i := 774) (by decide +kernel)
theorem iw_685 : (Cond.static yX11_requirePlace) ∈ lw_tbl := List.mem_of_getElem? (i := 775) (by decide +kernel)
theorem iw_686 : (Cond.code yX11_requirePlace cX11_requirePlace 2 none) ∈ lw_tbl := List.mem_of_getElem? (i := 776) (by decide +kernel)
theorem iw_687 : (Cond.methodLink RX11 217 yX10_at) ∈ lw_tbl := List.mem_of_getElem? (i := 778) (by decide +kernel)
theorem iw_688 : (Cond.methodLink RL 97 yX12_character) ∈ lw_tbl := List.mem_of_getElem? (i := 1080) (by decide +kernel)
theorem iw_689 : (Cond.instanceMethod yX12_character) ∈ lw_tbl := List.mem_of_getElem? (i := 1081) (by decide +kernel)
theorem iw_690 : (Cond.selects RX12 yX12_character yX12_character) ∈ lw_tbl := List.mem_of_getElem? (i := 1082) (by decide +kernel)
theorem iw_691 : (Cond.code yX12_character cX12_character 4 (some .char)) ∈ lw_tbl := List.mem_of_getElem? (i := 1083) (by decide +kernel)
theorem iw_692 : (Cond.methodLink RL 98 yX11_rows) ∈ lw_tbl := List.mem_of_getElem? (i := 431) (by decide +kernel)
theorem iw_693 : (Cond.instanceMethod yX11_rows) ∈ lw_tbl := List.mem_of_getElem? (i := 432) (by decide +kernel)
theorem iw_694 : (Cond.selects RX11 yX11_rows yX11_rows) ∈ lw_tbl := List.mem_of_getElem? (i := 433) (by decide +kernel)
theorem iw_695 : (Cond.code yX11_rows cX11_rows 1 (some .int)) ∈ lw_tbl := List.mem_of_getElem? (i := 434) (by decide +kernel)
theorem iw_696 : (Cond.methodLink RL 101 yX12_rows) ∈ lw_tbl := List.mem_of_getElem? (i := 1084) (by decide +kernel)
theorem iw_697 : (Cond.instanceMethod yX12_rows) ∈ lw_tbl := List.mem_of_getElem? (i := 1085) (by decide +kernel)
theorem iw_698 : (Cond.selects RX12 yX12_rows yX12_rows) ∈ lw_tbl := List.mem_of_getElem? (i := 1086) (by decide +kernel)
theorem iw_699 : (Cond.code yX12_rows cX12_rows 1 (some .int)) ∈ lw_tbl := List.mem_of_getElem? (i := 1087) (by decide +kernel)
theorem iw_700 : (Cond.methodLink RL 102 yL_row) ∈ lw_tbl := List.mem_of_getElem? (i := 779) (by decide +kernel)
theorem iw_701 : (Cond.static yL_row) ∈ lw_tbl := List.mem_of_getElem? (i := 780) (by decide +kernel)
theorem iw_702 : (Cond.codeWith yL_row cL_row 4 (some .int) [(0, 9, 12, 21)]) ∈ lw_tbl := List.mem_of_getElem? (i := 781) (by decide +kernel)
theorem iw_703 : (Cond.methodLink RL 41 yX11_row) ∈ lw_tbl := List.mem_of_getElem? (i := 782) (by decide +kernel)
theorem iw_704 : (Cond.instanceMethod yX11_row) ∈ lw_tbl := List.mem_of_getElem? (i := 783) (by decide +kernel)
theorem iw_705 : (Cond.selects RX11 yX11_row yX11_row) ∈ lw_tbl := List.mem_of_getElem? (i := 784) (by decide +kernel)
theorem iw_706 : (Cond.code yX11_row cX11_row 2 (some .int)) ∈ lw_tbl := List.mem_of_getElem? (i := 785) (by decide +kernel)
theorem iw_707 : (Cond.methodLink RX11 192 yX9_get) ∈ lw_tbl := List.mem_of_getElem? (i := 786) (by decide +kernel)
theorem iw_708 : (Cond.methodLink RL 104 yX12_row) ∈ lw_tbl := List.mem_of_getElem? (i := 1088) (by decide +kernel)
theorem iw_709 : (Cond.instanceMethod yX12_row) ∈ lw_tbl := List.mem_of_getElem? (i := 1089) (by decide +kernel)
theorem iw_710 : (Cond.selects RX12 yX12_row yX12_row) ∈ lw_tbl := List.mem_of_getElem? (i := 1090) (by decide +kernel)
theorem iw_711 : (Cond.code yX12_row cX12_row 2 (some .int)) ∈ lw_tbl := List.mem_of_getElem? (i := 1091) (by decide +kernel)
theorem iw_712 : (Cond.methodLink RL 105 yL_key) ∈ lw_tbl := List.mem_of_getElem? (i := 787) (by decide +kernel)
theorem iw_713 : (Cond.static yL_key) ∈ lw_tbl := List.mem_of_getElem? (i := 788) (by decide +kernel)
theorem iw_714 : (Cond.codeWith yL_key cL_key 5 (some .int) [(0, 10, 13, 21)]) ∈ lw_tbl := List.mem_of_getElem? (i := 789) (by decide +kernel)
theorem iw_715 : (Cond.methodLink RL 44 yX11_key) ∈ lw_tbl := List.mem_of_getElem? (i := 790) (by decide +kernel)
theorem iw_716 : (Cond.instanceMethod yX11_key) ∈ lw_tbl := List.mem_of_getElem? (i := 791) (by decide +kernel)
theorem iw_717 : (Cond.selects RX11 yX11_key yX11_key) ∈ lw_tbl := List.mem_of_getElem? (i := 792) (by decide +kernel)
theorem iw_718 : (Cond.code yX11_key cX11_key 3 (some .char)) ∈ lw_tbl := List.mem_of_getElem? (i := 793) (by decide +kernel)
theorem iw_719 : (Cond.methodLink RL 107 yX12_key) ∈ lw_tbl := List.mem_of_getElem? (i := 1092) (by decide +kernel)
theorem iw_720 : (Cond.instanceMethod yX12_key) ∈ lw_tbl := List.mem_of_getElem? (i := 1093) (by decide +kernel)
theorem iw_721 : (Cond.selects RX12 yX12_key yX12_key) ∈ lw_tbl := List.mem_of_getElem? (i := 1094) (by decide +kernel)
theorem iw_722 : (Cond.code yX12_key cX12_key 4 (some .char)) ∈ lw_tbl := List.mem_of_getElem? (i := 1095) (by decide +kernel)
theorem iw_723 : (Cond.methodLink RL 108 yX11_lines) ∈ lw_tbl := List.mem_of_getElem? (i := 435) (by decide +kernel)
theorem iw_724 : (Cond.instanceMethod yX11_lines) ∈ lw_tbl := List.mem_of_getElem? (i := 436) (by decide +kernel)
theorem iw_725 : (Cond.selects RX11 yX11_lines yX11_lines) ∈ lw_tbl := List.mem_of_getElem? (i := 437) (by decide +kernel)
theorem iw_726 : (Cond.code yX11_lines cX11_lines 1 (some .int)) ∈ lw_tbl := List.mem_of_getElem? (i := 438) (by decide +kernel)
theorem iw_727 : (Cond.methodLink RL 111 yX12_lines) ∈ lw_tbl := List.mem_of_getElem? (i := 1096) (by decide +kernel)
theorem iw_728 : (Cond.instanceMethod yX12_lines) ∈ lw_tbl := List.mem_of_getElem? (i := 1097) (by decide +kernel)
theorem iw_729 : (Cond.selects RX12 yX12_lines yX12_lines) ∈ lw_tbl := List.mem_of_getElem? (i := 1098) (by decide +kernel)
theorem iw_730 : (Cond.code yX12_lines cX12_lines 1 (some .int)) ∈ lw_tbl := List.mem_of_getElem? (i := 1099) (by decide +kernel)
theorem iw_731 : (Cond.methodLink RL 112 yL_line) ∈ lw_tbl := List.mem_of_getElem? (i := 794) (by decide +kernel)
theorem iw_732 : (Cond.static yL_line) ∈ lw_tbl := List.mem_of_getElem? (i := 795) (by decide +kernel)
theorem iw_733 : (Cond.codeWith yL_line cL_line 5 (some .int) [(0, 10, 13, 21)]) ∈ lw_tbl := List.mem_of_getElem? (i := 796) (by decide +kernel)
theorem iw_734 : (Cond.methodLink RL 47 yX11_line) ∈ lw_tbl := List.mem_of_getElem? (i := 797) (by decide +kernel)
theorem iw_735 : (Cond.instanceMethod yX11_line) ∈ lw_tbl := List.mem_of_getElem? (i := 798) (by decide +kernel)
theorem iw_736 : (Cond.selects RX11 yX11_line yX11_line) ∈ lw_tbl := List.mem_of_getElem? (i := 799) (by decide +kernel)
theorem iw_737 : (Cond.code yX11_line cX11_line 3 (some .char)) ∈ lw_tbl := List.mem_of_getElem? (i := 800) (by decide +kernel)
theorem iw_738 : (Cond.methodLink RX11 204 yX5_get) ∈ lw_tbl := List.mem_of_getElem? (i := 801) (by decide +kernel)
theorem iw_739 : (Cond.methodLink RL 114 yX12_line) ∈ lw_tbl := List.mem_of_getElem? (i := 1100) (by decide +kernel)
theorem iw_740 : (Cond.instanceMethod yX12_line) ∈ lw_tbl := List.mem_of_getElem? (i := 1101) (by decide +kernel)
theorem iw_741 : (Cond.selects RX12 yX12_line yX12_line) ∈ lw_tbl := List.mem_of_getElem? (i := 1102) (by decide +kernel)
theorem iw_742 : (Cond.code yX12_line cX12_line 4 (some .char)) ∈ lw_tbl := List.mem_of_getElem? (i := 1103) (by decide +kernel)
theorem iw_743 : (Cond.methodLink RL 115 yX11_faults) ∈ lw_tbl := List.mem_of_getElem? (i := 439) (by decide +kernel)
theorem iw_744 : (Cond.instanceMethod yX11_faults) ∈ lw_tbl := List.mem_of_getElem? (i := 440) (by decide +kernel)
theorem iw_745 : (Cond.selects RX11 yX11_faults yX11_faults) ∈ lw_tbl := List.mem_of_getElem? (i := 441) (by decide +kernel)
theorem iw_746 : (Cond.code yX11_faults cX11_faults 1 (some .int)) ∈ lw_tbl := List.mem_of_getElem? (i := 442) (by decide +kernel)
theorem iw_747 : (Cond.methodLink RL 118 yX12_faults) ∈ lw_tbl := List.mem_of_getElem? (i := 1104) (by decide +kernel)
theorem iw_748 : (Cond.instanceMethod yX12_faults) ∈ lw_tbl := List.mem_of_getElem? (i := 1105) (by decide +kernel)
theorem iw_749 : (Cond.selects RX12 yX12_faults yX12_faults) ∈ lw_tbl := List.mem_of_getElem? (i := 1106) (by decide +kernel)
theorem iw_750 : (Cond.code yX12_faults cX12_faults 1 (some .int)) ∈ lw_tbl := List.mem_of_getElem? (i := 1107) (by decide +kernel)
theorem ir_1 : ∀ w ∈ wsL_law0_r1, w ∈ lw_tbl := List.forall_mem_cons.mpr ⟨iw_0, List.forall_mem_cons.mpr ⟨iw_1, List.forall_mem_cons.mpr ⟨iw_2, List.forall_mem_cons.mpr ⟨iw_3, List.forall_mem_cons.mpr ⟨iw_4, List.forall_mem_cons.mpr ⟨iw_5, List.forall_mem_cons.mpr ⟨iw_6, List.forall_mem_cons.mpr ⟨iw_7, List.forall_mem_cons.mpr ⟨iw_8, List.forall_mem_cons.mpr ⟨iw_9, List.forall_mem_cons.mpr ⟨iw_10, List.forall_mem_cons.mpr ⟨iw_11, List.forall_mem_cons.mpr ⟨iw_12, List.forall_mem_cons.mpr ⟨iw_13, List.forall_mem_cons.mpr ⟨iw_14, List.forall_mem_cons.mpr ⟨iw_15, List.forall_mem_cons.mpr ⟨iw_16, List.forall_mem_cons.mpr ⟨iw_17, List.forall_mem_cons.mpr ⟨iw_18, List.forall_mem_cons.mpr ⟨iw_19, List.forall_mem_cons.mpr ⟨iw_20, List.forall_mem_cons.mpr ⟨iw_21, List.forall_mem_cons.mpr ⟨iw_22, List.forall_mem_cons.mpr ⟨iw_23, fun _ h => absurd h List.not_mem_nil⟩⟩⟩⟩⟩⟩⟩⟩⟩⟩⟩⟩⟩⟩⟩⟩⟩⟩⟩⟩⟩⟩⟩⟩
theorem ir_2 : ∀ w ∈ wsL_law0_r2, w ∈ lw_tbl := List.forall_mem_cons.mpr ⟨iw_24, List.forall_mem_cons.mpr ⟨iw_25, List.forall_mem_cons.mpr ⟨iw_26, List.forall_mem_cons.mpr ⟨iw_27, List.forall_mem_cons.mpr ⟨iw_28, List.forall_mem_cons.mpr ⟨iw_29, List.forall_mem_cons.mpr ⟨iw_30, List.forall_mem_cons.mpr ⟨iw_31, List.forall_mem_cons.mpr ⟨iw_32, List.forall_mem_cons.mpr ⟨iw_33, List.forall_mem_cons.mpr ⟨iw_34, List.forall_mem_cons.mpr ⟨iw_35, List.forall_mem_cons.mpr ⟨iw_36, List.forall_mem_cons.mpr ⟨iw_37, List.forall_mem_cons.mpr ⟨iw_38, List.forall_mem_cons.mpr ⟨iw_39, List.forall_mem_cons.mpr ⟨iw_40, List.forall_mem_cons.mpr ⟨iw_41, List.forall_mem_cons.mpr ⟨iw_42, List.forall_mem_cons.mpr ⟨iw_43, List.forall_mem_cons.mpr ⟨iw_44, List.forall_mem_cons.mpr ⟨iw_45, List.forall_mem_cons.mpr ⟨iw_46, List.forall_mem_cons.mpr ⟨iw_47, fun _ h => absurd h List.not_mem_nil⟩⟩⟩⟩⟩⟩⟩⟩⟩⟩⟩⟩⟩⟩⟩⟩⟩⟩⟩⟩⟩⟩⟩⟩
theorem ir_3 : ∀ w ∈ wsL_law0_r3, w ∈ lw_tbl := List.forall_mem_cons.mpr ⟨iw_48, List.forall_mem_cons.mpr ⟨iw_49, List.forall_mem_cons.mpr ⟨iw_50, List.forall_mem_cons.mpr ⟨iw_51, List.forall_mem_cons.mpr ⟨iw_52, List.forall_mem_cons.mpr ⟨iw_53, List.forall_mem_cons.mpr ⟨iw_54, List.forall_mem_cons.mpr ⟨iw_55, List.forall_mem_cons.mpr ⟨iw_56, List.forall_mem_cons.mpr ⟨iw_57, List.forall_mem_cons.mpr ⟨iw_58, List.forall_mem_cons.mpr ⟨iw_59, List.forall_mem_cons.mpr ⟨iw_60, List.forall_mem_cons.mpr ⟨iw_61, List.forall_mem_cons.mpr ⟨iw_62, List.forall_mem_cons.mpr ⟨iw_63, List.forall_mem_cons.mpr ⟨iw_64, List.forall_mem_cons.mpr ⟨iw_65, List.forall_mem_cons.mpr ⟨iw_66, List.forall_mem_cons.mpr ⟨iw_67, List.forall_mem_cons.mpr ⟨iw_68, List.forall_mem_cons.mpr ⟨iw_69, List.forall_mem_cons.mpr ⟨iw_70, List.forall_mem_cons.mpr ⟨iw_71, fun _ h => absurd h List.not_mem_nil⟩⟩⟩⟩⟩⟩⟩⟩⟩⟩⟩⟩⟩⟩⟩⟩⟩⟩⟩⟩⟩⟩⟩⟩
theorem ir_4 : ∀ w ∈ wsL_law0_r4, w ∈ lw_tbl := List.forall_mem_cons.mpr ⟨iw_72, List.forall_mem_cons.mpr ⟨iw_73, List.forall_mem_cons.mpr ⟨iw_74, List.forall_mem_cons.mpr ⟨iw_75, List.forall_mem_cons.mpr ⟨iw_76, List.forall_mem_cons.mpr ⟨iw_77, List.forall_mem_cons.mpr ⟨iw_78, List.forall_mem_cons.mpr ⟨iw_79, List.forall_mem_cons.mpr ⟨iw_80, List.forall_mem_cons.mpr ⟨iw_81, List.forall_mem_cons.mpr ⟨iw_82, List.forall_mem_cons.mpr ⟨iw_83, List.forall_mem_cons.mpr ⟨iw_84, List.forall_mem_cons.mpr ⟨iw_85, List.forall_mem_cons.mpr ⟨iw_86, List.forall_mem_cons.mpr ⟨iw_87, List.forall_mem_cons.mpr ⟨iw_88, List.forall_mem_cons.mpr ⟨iw_89, List.forall_mem_cons.mpr ⟨iw_90, List.forall_mem_cons.mpr ⟨iw_91, List.forall_mem_cons.mpr ⟨iw_92, List.forall_mem_cons.mpr ⟨iw_93, List.forall_mem_cons.mpr ⟨iw_94, List.forall_mem_cons.mpr ⟨iw_95, fun _ h => absurd h List.not_mem_nil⟩⟩⟩⟩⟩⟩⟩⟩⟩⟩⟩⟩⟩⟩⟩⟩⟩⟩⟩⟩⟩⟩⟩⟩
theorem ir_5 : ∀ w ∈ wsL_law0_r5, w ∈ lw_tbl := List.forall_mem_cons.mpr ⟨iw_96, List.forall_mem_cons.mpr ⟨iw_97, List.forall_mem_cons.mpr ⟨iw_98, List.forall_mem_cons.mpr ⟨iw_99, List.forall_mem_cons.mpr ⟨iw_100, List.forall_mem_cons.mpr ⟨iw_101, List.forall_mem_cons.mpr ⟨iw_102, List.forall_mem_cons.mpr ⟨iw_103, List.forall_mem_cons.mpr ⟨iw_104, List.forall_mem_cons.mpr ⟨iw_105, List.forall_mem_cons.mpr ⟨iw_106, List.forall_mem_cons.mpr ⟨iw_107, List.forall_mem_cons.mpr ⟨iw_108, List.forall_mem_cons.mpr ⟨iw_109, List.forall_mem_cons.mpr ⟨iw_110, List.forall_mem_cons.mpr ⟨iw_111, List.forall_mem_cons.mpr ⟨iw_112, List.forall_mem_cons.mpr ⟨iw_113, List.forall_mem_cons.mpr ⟨iw_114, List.forall_mem_cons.mpr ⟨iw_115, List.forall_mem_cons.mpr ⟨iw_116, List.forall_mem_cons.mpr ⟨iw_117, List.forall_mem_cons.mpr ⟨iw_118, List.forall_mem_cons.mpr ⟨iw_119, fun _ h => absurd h List.not_mem_nil⟩⟩⟩⟩⟩⟩⟩⟩⟩⟩⟩⟩⟩⟩⟩⟩⟩⟩⟩⟩⟩⟩⟩⟩
theorem ir_6 : ∀ w ∈ wsL_law0_r6, w ∈ lw_tbl := List.forall_mem_cons.mpr ⟨iw_120, List.forall_mem_cons.mpr ⟨iw_121, List.forall_mem_cons.mpr ⟨iw_122, List.forall_mem_cons.mpr ⟨iw_123, List.forall_mem_cons.mpr ⟨iw_124, List.forall_mem_cons.mpr ⟨iw_125, List.forall_mem_cons.mpr ⟨iw_126, List.forall_mem_cons.mpr ⟨iw_127, List.forall_mem_cons.mpr ⟨iw_128, List.forall_mem_cons.mpr ⟨iw_129, List.forall_mem_cons.mpr ⟨iw_130, List.forall_mem_cons.mpr ⟨iw_131, List.forall_mem_cons.mpr ⟨iw_132, List.forall_mem_cons.mpr ⟨iw_133, List.forall_mem_cons.mpr ⟨iw_134, List.forall_mem_cons.mpr ⟨iw_135, List.forall_mem_cons.mpr ⟨iw_136, List.forall_mem_cons.mpr ⟨iw_137, List.forall_mem_cons.mpr ⟨iw_138, List.forall_mem_cons.mpr ⟨iw_139, List.forall_mem_cons.mpr ⟨iw_140, List.forall_mem_cons.mpr ⟨iw_141, List.forall_mem_cons.mpr ⟨iw_142, List.forall_mem_cons.mpr ⟨iw_143, fun _ h => absurd h List.not_mem_nil⟩⟩⟩⟩⟩⟩⟩⟩⟩⟩⟩⟩⟩⟩⟩⟩⟩⟩⟩⟩⟩⟩⟩⟩
theorem ir_7 : ∀ w ∈ wsL_law0_r7, w ∈ lw_tbl := List.forall_mem_cons.mpr ⟨iw_144, List.forall_mem_cons.mpr ⟨iw_145, List.forall_mem_cons.mpr ⟨iw_146, List.forall_mem_cons.mpr ⟨iw_147, List.forall_mem_cons.mpr ⟨iw_148, List.forall_mem_cons.mpr ⟨iw_149, List.forall_mem_cons.mpr ⟨iw_150, List.forall_mem_cons.mpr ⟨iw_151, List.forall_mem_cons.mpr ⟨iw_152, List.forall_mem_cons.mpr ⟨iw_153, List.forall_mem_cons.mpr ⟨iw_154, List.forall_mem_cons.mpr ⟨iw_155, List.forall_mem_cons.mpr ⟨iw_156, List.forall_mem_cons.mpr ⟨iw_157, List.forall_mem_cons.mpr ⟨iw_158, List.forall_mem_cons.mpr ⟨iw_159, List.forall_mem_cons.mpr ⟨iw_160, List.forall_mem_cons.mpr ⟨iw_161, List.forall_mem_cons.mpr ⟨iw_162, List.forall_mem_cons.mpr ⟨iw_163, List.forall_mem_cons.mpr ⟨iw_164, List.forall_mem_cons.mpr ⟨iw_165, List.forall_mem_cons.mpr ⟨iw_166, List.forall_mem_cons.mpr ⟨iw_167, fun _ h => absurd h List.not_mem_nil⟩⟩⟩⟩⟩⟩⟩⟩⟩⟩⟩⟩⟩⟩⟩⟩⟩⟩⟩⟩⟩⟩⟩⟩
theorem ir_8 : ∀ w ∈ wsL_law0_r8, w ∈ lw_tbl := List.forall_mem_cons.mpr ⟨iw_168, List.forall_mem_cons.mpr ⟨iw_169, List.forall_mem_cons.mpr ⟨iw_170, List.forall_mem_cons.mpr ⟨iw_171, List.forall_mem_cons.mpr ⟨iw_172, List.forall_mem_cons.mpr ⟨iw_173, List.forall_mem_cons.mpr ⟨iw_174, List.forall_mem_cons.mpr ⟨iw_175, List.forall_mem_cons.mpr ⟨iw_176, List.forall_mem_cons.mpr ⟨iw_177, List.forall_mem_cons.mpr ⟨iw_178, List.forall_mem_cons.mpr ⟨iw_179, List.forall_mem_cons.mpr ⟨iw_180, List.forall_mem_cons.mpr ⟨iw_181, List.forall_mem_cons.mpr ⟨iw_182, List.forall_mem_cons.mpr ⟨iw_183, List.forall_mem_cons.mpr ⟨iw_184, List.forall_mem_cons.mpr ⟨iw_185, List.forall_mem_cons.mpr ⟨iw_186, List.forall_mem_cons.mpr ⟨iw_187, List.forall_mem_cons.mpr ⟨iw_188, List.forall_mem_cons.mpr ⟨iw_189, List.forall_mem_cons.mpr ⟨iw_190, List.forall_mem_cons.mpr ⟨iw_191, fun _ h => absurd h List.not_mem_nil⟩⟩⟩⟩⟩⟩⟩⟩⟩⟩⟩⟩⟩⟩⟩⟩⟩⟩⟩⟩⟩⟩⟩⟩
theorem ir_9 : ∀ w ∈ wsL_law0_r9, w ∈ lw_tbl := List.forall_mem_cons.mpr ⟨iw_192, List.forall_mem_cons.mpr ⟨iw_193, List.forall_mem_cons.mpr ⟨iw_194, List.forall_mem_cons.mpr ⟨iw_195, List.forall_mem_cons.mpr ⟨iw_196, List.forall_mem_cons.mpr ⟨iw_197, List.forall_mem_cons.mpr ⟨iw_198, List.forall_mem_cons.mpr ⟨iw_199, List.forall_mem_cons.mpr ⟨iw_200, List.forall_mem_cons.mpr ⟨iw_201, List.forall_mem_cons.mpr ⟨iw_202, List.forall_mem_cons.mpr ⟨iw_203, List.forall_mem_cons.mpr ⟨iw_204, List.forall_mem_cons.mpr ⟨iw_205, List.forall_mem_cons.mpr ⟨iw_206, List.forall_mem_cons.mpr ⟨iw_207, List.forall_mem_cons.mpr ⟨iw_208, List.forall_mem_cons.mpr ⟨iw_209, List.forall_mem_cons.mpr ⟨iw_210, List.forall_mem_cons.mpr ⟨iw_211, List.forall_mem_cons.mpr ⟨iw_212, List.forall_mem_cons.mpr ⟨iw_213, List.forall_mem_cons.mpr ⟨iw_214, List.forall_mem_cons.mpr ⟨iw_215, fun _ h => absurd h List.not_mem_nil⟩⟩⟩⟩⟩⟩⟩⟩⟩⟩⟩⟩⟩⟩⟩⟩⟩⟩⟩⟩⟩⟩⟩⟩
theorem ir_10 : ∀ w ∈ wsL_law0_r10, w ∈ lw_tbl := List.forall_mem_cons.mpr ⟨iw_216, List.forall_mem_cons.mpr ⟨iw_217, List.forall_mem_cons.mpr ⟨iw_218, List.forall_mem_cons.mpr ⟨iw_219, List.forall_mem_cons.mpr ⟨iw_220, List.forall_mem_cons.mpr ⟨iw_221, List.forall_mem_cons.mpr ⟨iw_222, List.forall_mem_cons.mpr ⟨iw_223, List.forall_mem_cons.mpr ⟨iw_224, List.forall_mem_cons.mpr ⟨iw_225, List.forall_mem_cons.mpr ⟨iw_226, List.forall_mem_cons.mpr ⟨iw_227, List.forall_mem_cons.mpr ⟨iw_228, List.forall_mem_cons.mpr ⟨iw_229, List.forall_mem_cons.mpr ⟨iw_230, List.forall_mem_cons.mpr ⟨iw_231, List.forall_mem_cons.mpr ⟨iw_232, List.forall_mem_cons.mpr ⟨iw_233, List.forall_mem_cons.mpr ⟨iw_234, List.forall_mem_cons.mpr ⟨iw_235, List.forall_mem_cons.mpr ⟨iw_236, List.forall_mem_cons.mpr ⟨iw_237, List.forall_mem_cons.mpr ⟨iw_238, List.forall_mem_cons.mpr ⟨iw_239, fun _ h => absurd h List.not_mem_nil⟩⟩⟩⟩⟩⟩⟩⟩⟩⟩⟩⟩⟩⟩⟩⟩⟩⟩⟩⟩⟩⟩⟩⟩
theorem ir_11 : ∀ w ∈ wsL_law0_r11, w ∈ lw_tbl := List.forall_mem_cons.mpr ⟨iw_134, List.forall_mem_cons.mpr ⟨iw_240, List.forall_mem_cons.mpr ⟨iw_241, List.forall_mem_cons.mpr ⟨iw_242, List.forall_mem_cons.mpr ⟨iw_243, List.forall_mem_cons.mpr ⟨iw_244, List.forall_mem_cons.mpr ⟨iw_245, List.forall_mem_cons.mpr ⟨iw_246, List.forall_mem_cons.mpr ⟨iw_247, List.forall_mem_cons.mpr ⟨iw_248, List.forall_mem_cons.mpr ⟨iw_249, List.forall_mem_cons.mpr ⟨iw_250, List.forall_mem_cons.mpr ⟨iw_251, List.forall_mem_cons.mpr ⟨iw_252, List.forall_mem_cons.mpr ⟨iw_253, List.forall_mem_cons.mpr ⟨iw_254, List.forall_mem_cons.mpr ⟨iw_255, List.forall_mem_cons.mpr ⟨iw_256, List.forall_mem_cons.mpr ⟨iw_257, List.forall_mem_cons.mpr ⟨iw_258, List.forall_mem_cons.mpr ⟨iw_259, List.forall_mem_cons.mpr ⟨iw_260, List.forall_mem_cons.mpr ⟨iw_261, List.forall_mem_cons.mpr ⟨iw_262, fun _ h => absurd h List.not_mem_nil⟩⟩⟩⟩⟩⟩⟩⟩⟩⟩⟩⟩⟩⟩⟩⟩⟩⟩⟩⟩⟩⟩⟩⟩
theorem ir_12 : ∀ w ∈ wsL_law0_r12, w ∈ lw_tbl := List.forall_mem_cons.mpr ⟨iw_263, List.forall_mem_cons.mpr ⟨iw_264, List.forall_mem_cons.mpr ⟨iw_265, List.forall_mem_cons.mpr ⟨iw_266, List.forall_mem_cons.mpr ⟨iw_267, List.forall_mem_cons.mpr ⟨iw_268, List.forall_mem_cons.mpr ⟨iw_269, List.forall_mem_cons.mpr ⟨iw_270, List.forall_mem_cons.mpr ⟨iw_271, List.forall_mem_cons.mpr ⟨iw_272, List.forall_mem_cons.mpr ⟨iw_273, List.forall_mem_cons.mpr ⟨iw_274, List.forall_mem_cons.mpr ⟨iw_275, List.forall_mem_cons.mpr ⟨iw_276, List.forall_mem_cons.mpr ⟨iw_277, List.forall_mem_cons.mpr ⟨iw_278, List.forall_mem_cons.mpr ⟨iw_279, List.forall_mem_cons.mpr ⟨iw_280, List.forall_mem_cons.mpr ⟨iw_281, List.forall_mem_cons.mpr ⟨iw_282, List.forall_mem_cons.mpr ⟨iw_283, List.forall_mem_cons.mpr ⟨iw_284, List.forall_mem_cons.mpr ⟨iw_285, List.forall_mem_cons.mpr ⟨iw_286, fun _ h => absurd h List.not_mem_nil⟩⟩⟩⟩⟩⟩⟩⟩⟩⟩⟩⟩⟩⟩⟩⟩⟩⟩⟩⟩⟩⟩⟩⟩
theorem ir_13 : ∀ w ∈ wsL_law0_r13, w ∈ lw_tbl := List.forall_mem_cons.mpr ⟨iw_287, List.forall_mem_cons.mpr ⟨iw_288, List.forall_mem_cons.mpr ⟨iw_289, List.forall_mem_cons.mpr ⟨iw_290, List.forall_mem_cons.mpr ⟨iw_291, List.forall_mem_cons.mpr ⟨iw_292, List.forall_mem_cons.mpr ⟨iw_293, List.forall_mem_cons.mpr ⟨iw_294, List.forall_mem_cons.mpr ⟨iw_295, List.forall_mem_cons.mpr ⟨iw_296, List.forall_mem_cons.mpr ⟨iw_297, List.forall_mem_cons.mpr ⟨iw_298, List.forall_mem_cons.mpr ⟨iw_299, List.forall_mem_cons.mpr ⟨iw_300, List.forall_mem_cons.mpr ⟨iw_301, List.forall_mem_cons.mpr ⟨iw_302, List.forall_mem_cons.mpr ⟨iw_303, List.forall_mem_cons.mpr ⟨iw_304, List.forall_mem_cons.mpr ⟨iw_305, List.forall_mem_cons.mpr ⟨iw_306, List.forall_mem_cons.mpr ⟨iw_307, List.forall_mem_cons.mpr ⟨iw_308, List.forall_mem_cons.mpr ⟨iw_309, List.forall_mem_cons.mpr ⟨iw_310, fun _ h => absurd h List.not_mem_nil⟩⟩⟩⟩⟩⟩⟩⟩⟩⟩⟩⟩⟩⟩⟩⟩⟩⟩⟩⟩⟩⟩⟩⟩
theorem ir_14 : ∀ w ∈ wsL_law0_r14, w ∈ lw_tbl := List.forall_mem_cons.mpr ⟨iw_311, List.forall_mem_cons.mpr ⟨iw_312, List.forall_mem_cons.mpr ⟨iw_313, List.forall_mem_cons.mpr ⟨iw_314, List.forall_mem_cons.mpr ⟨iw_315, List.forall_mem_cons.mpr ⟨iw_316, List.forall_mem_cons.mpr ⟨iw_317, List.forall_mem_cons.mpr ⟨iw_318, List.forall_mem_cons.mpr ⟨iw_319, List.forall_mem_cons.mpr ⟨iw_320, List.forall_mem_cons.mpr ⟨iw_321, List.forall_mem_cons.mpr ⟨iw_322, List.forall_mem_cons.mpr ⟨iw_323, List.forall_mem_cons.mpr ⟨iw_324, List.forall_mem_cons.mpr ⟨iw_325, List.forall_mem_cons.mpr ⟨iw_326, List.forall_mem_cons.mpr ⟨iw_327, List.forall_mem_cons.mpr ⟨iw_328, List.forall_mem_cons.mpr ⟨iw_329, List.forall_mem_cons.mpr ⟨iw_330, List.forall_mem_cons.mpr ⟨iw_331, List.forall_mem_cons.mpr ⟨iw_332, List.forall_mem_cons.mpr ⟨iw_333, List.forall_mem_cons.mpr ⟨iw_334, fun _ h => absurd h List.not_mem_nil⟩⟩⟩⟩⟩⟩⟩⟩⟩⟩⟩⟩⟩⟩⟩⟩⟩⟩⟩⟩⟩⟩⟩⟩
theorem ir_15 : ∀ w ∈ wsL_law0_r15, w ∈ lw_tbl := List.forall_mem_cons.mpr ⟨iw_335, List.forall_mem_cons.mpr ⟨iw_336, List.forall_mem_cons.mpr ⟨iw_337, List.forall_mem_cons.mpr ⟨iw_338, List.forall_mem_cons.mpr ⟨iw_339, List.forall_mem_cons.mpr ⟨iw_340, List.forall_mem_cons.mpr ⟨iw_341, List.forall_mem_cons.mpr ⟨iw_342, List.forall_mem_cons.mpr ⟨iw_343, List.forall_mem_cons.mpr ⟨iw_344, List.forall_mem_cons.mpr ⟨iw_345, List.forall_mem_cons.mpr ⟨iw_346, List.forall_mem_cons.mpr ⟨iw_347, List.forall_mem_cons.mpr ⟨iw_348, List.forall_mem_cons.mpr ⟨iw_349, List.forall_mem_cons.mpr ⟨iw_350, List.forall_mem_cons.mpr ⟨iw_351, List.forall_mem_cons.mpr ⟨iw_352, List.forall_mem_cons.mpr ⟨iw_353, List.forall_mem_cons.mpr ⟨iw_354, List.forall_mem_cons.mpr ⟨iw_355, List.forall_mem_cons.mpr ⟨iw_356, List.forall_mem_cons.mpr ⟨iw_357, List.forall_mem_cons.mpr ⟨iw_358, fun _ h => absurd h List.not_mem_nil⟩⟩⟩⟩⟩⟩⟩⟩⟩⟩⟩⟩⟩⟩⟩⟩⟩⟩⟩⟩⟩⟩⟩⟩
theorem ir_16 : ∀ w ∈ wsL_law0_r16, w ∈ lw_tbl := List.forall_mem_cons.mpr ⟨iw_359, List.forall_mem_cons.mpr ⟨iw_360, List.forall_mem_cons.mpr ⟨iw_361, List.forall_mem_cons.mpr ⟨iw_362, List.forall_mem_cons.mpr ⟨iw_363, List.forall_mem_cons.mpr ⟨iw_364, List.forall_mem_cons.mpr ⟨iw_365, List.forall_mem_cons.mpr ⟨iw_366, List.forall_mem_cons.mpr ⟨iw_367, List.forall_mem_cons.mpr ⟨iw_368, List.forall_mem_cons.mpr ⟨iw_369, List.forall_mem_cons.mpr ⟨iw_370, List.forall_mem_cons.mpr ⟨iw_371, List.forall_mem_cons.mpr ⟨iw_372, List.forall_mem_cons.mpr ⟨iw_373, List.forall_mem_cons.mpr ⟨iw_374, List.forall_mem_cons.mpr ⟨iw_375, List.forall_mem_cons.mpr ⟨iw_376, List.forall_mem_cons.mpr ⟨iw_377, List.forall_mem_cons.mpr ⟨iw_378, List.forall_mem_cons.mpr ⟨iw_379, List.forall_mem_cons.mpr ⟨iw_380, List.forall_mem_cons.mpr ⟨iw_381, List.forall_mem_cons.mpr ⟨iw_382, fun _ h => absurd h List.not_mem_nil⟩⟩⟩⟩⟩⟩⟩⟩⟩⟩⟩⟩⟩⟩⟩⟩⟩⟩⟩⟩⟩⟩⟩⟩
theorem ir_17 : ∀ w ∈ wsL_law0_r17, w ∈ lw_tbl := List.forall_mem_cons.mpr ⟨iw_383, List.forall_mem_cons.mpr ⟨iw_384, List.forall_mem_cons.mpr ⟨iw_385, List.forall_mem_cons.mpr ⟨iw_386, List.forall_mem_cons.mpr ⟨iw_387, List.forall_mem_cons.mpr ⟨iw_388, List.forall_mem_cons.mpr ⟨iw_389, List.forall_mem_cons.mpr ⟨iw_390, List.forall_mem_cons.mpr ⟨iw_391, List.forall_mem_cons.mpr ⟨iw_392, List.forall_mem_cons.mpr ⟨iw_393, List.forall_mem_cons.mpr ⟨iw_394, List.forall_mem_cons.mpr ⟨iw_395, List.forall_mem_cons.mpr ⟨iw_396, List.forall_mem_cons.mpr ⟨iw_397, List.forall_mem_cons.mpr ⟨iw_398, List.forall_mem_cons.mpr ⟨iw_399, List.forall_mem_cons.mpr ⟨iw_400, List.forall_mem_cons.mpr ⟨iw_401, List.forall_mem_cons.mpr ⟨iw_402, List.forall_mem_cons.mpr ⟨iw_403, List.forall_mem_cons.mpr ⟨iw_404, List.forall_mem_cons.mpr ⟨iw_405, List.forall_mem_cons.mpr ⟨iw_406, fun _ h => absurd h List.not_mem_nil⟩⟩⟩⟩⟩⟩⟩⟩⟩⟩⟩⟩⟩⟩⟩⟩⟩⟩⟩⟩⟩⟩⟩⟩
theorem ir_18 : ∀ w ∈ wsL_law0_r18, w ∈ lw_tbl := List.forall_mem_cons.mpr ⟨iw_407, List.forall_mem_cons.mpr ⟨iw_408, List.forall_mem_cons.mpr ⟨iw_409, List.forall_mem_cons.mpr ⟨iw_410, List.forall_mem_cons.mpr ⟨iw_411, List.forall_mem_cons.mpr ⟨iw_412, List.forall_mem_cons.mpr ⟨iw_413, List.forall_mem_cons.mpr ⟨iw_414, List.forall_mem_cons.mpr ⟨iw_415, List.forall_mem_cons.mpr ⟨iw_416, List.forall_mem_cons.mpr ⟨iw_417, List.forall_mem_cons.mpr ⟨iw_418, List.forall_mem_cons.mpr ⟨iw_419, List.forall_mem_cons.mpr ⟨iw_420, List.forall_mem_cons.mpr ⟨iw_421, List.forall_mem_cons.mpr ⟨iw_422, List.forall_mem_cons.mpr ⟨iw_423, List.forall_mem_cons.mpr ⟨iw_424, List.forall_mem_cons.mpr ⟨iw_425, List.forall_mem_cons.mpr ⟨iw_426, List.forall_mem_cons.mpr ⟨iw_427, List.forall_mem_cons.mpr ⟨iw_428, List.forall_mem_cons.mpr ⟨iw_429, List.forall_mem_cons.mpr ⟨iw_430, fun _ h => absurd h List.not_mem_nil⟩⟩⟩⟩⟩⟩⟩⟩⟩⟩⟩⟩⟩⟩⟩⟩⟩⟩⟩⟩⟩⟩⟩⟩
theorem ir_19 : ∀ w ∈ wsL_law0_r19, w ∈ lw_tbl := List.forall_mem_cons.mpr ⟨iw_431, List.forall_mem_cons.mpr ⟨iw_432, List.forall_mem_cons.mpr ⟨iw_433, List.forall_mem_cons.mpr ⟨iw_434, List.forall_mem_cons.mpr ⟨iw_435, List.forall_mem_cons.mpr ⟨iw_436, List.forall_mem_cons.mpr ⟨iw_437, List.forall_mem_cons.mpr ⟨iw_438, List.forall_mem_cons.mpr ⟨iw_439, List.forall_mem_cons.mpr ⟨iw_440, List.forall_mem_cons.mpr ⟨iw_441, List.forall_mem_cons.mpr ⟨iw_442, List.forall_mem_cons.mpr ⟨iw_240, List.forall_mem_cons.mpr ⟨iw_443, List.forall_mem_cons.mpr ⟨iw_444, List.forall_mem_cons.mpr ⟨iw_445, List.forall_mem_cons.mpr ⟨iw_446, List.forall_mem_cons.mpr ⟨iw_447, List.forall_mem_cons.mpr ⟨iw_448, List.forall_mem_cons.mpr ⟨iw_449, List.forall_mem_cons.mpr ⟨iw_450, List.forall_mem_cons.mpr ⟨iw_451, List.forall_mem_cons.mpr ⟨iw_452, List.forall_mem_cons.mpr ⟨iw_453, fun _ h => absurd h List.not_mem_nil⟩⟩⟩⟩⟩⟩⟩⟩⟩⟩⟩⟩⟩⟩⟩⟩⟩⟩⟩⟩⟩⟩⟩⟩
theorem ir_20 : ∀ w ∈ wsL_law0_r20, w ∈ lw_tbl := List.forall_mem_cons.mpr ⟨iw_454, List.forall_mem_cons.mpr ⟨iw_455, List.forall_mem_cons.mpr ⟨iw_456, List.forall_mem_cons.mpr ⟨iw_457, List.forall_mem_cons.mpr ⟨iw_458, List.forall_mem_cons.mpr ⟨iw_459, List.forall_mem_cons.mpr ⟨iw_460, List.forall_mem_cons.mpr ⟨iw_461, List.forall_mem_cons.mpr ⟨iw_462, List.forall_mem_cons.mpr ⟨iw_463, List.forall_mem_cons.mpr ⟨iw_464, List.forall_mem_cons.mpr ⟨iw_465, List.forall_mem_cons.mpr ⟨iw_466, List.forall_mem_cons.mpr ⟨iw_467, List.forall_mem_cons.mpr ⟨iw_468, List.forall_mem_cons.mpr ⟨iw_469, List.forall_mem_cons.mpr ⟨iw_470, List.forall_mem_cons.mpr ⟨iw_471, List.forall_mem_cons.mpr ⟨iw_472, List.forall_mem_cons.mpr ⟨iw_473, List.forall_mem_cons.mpr ⟨iw_474, List.forall_mem_cons.mpr ⟨iw_475, List.forall_mem_cons.mpr ⟨iw_476, List.forall_mem_cons.mpr ⟨iw_477, fun _ h => absurd h List.not_mem_nil⟩⟩⟩⟩⟩⟩⟩⟩⟩⟩⟩⟩⟩⟩⟩⟩⟩⟩⟩⟩⟩⟩⟩⟩
theorem ir_21 : ∀ w ∈ wsL_law0_r21, w ∈ lw_tbl := List.forall_mem_cons.mpr ⟨iw_478, List.forall_mem_cons.mpr ⟨iw_479, List.forall_mem_cons.mpr ⟨iw_480, List.forall_mem_cons.mpr ⟨iw_481, List.forall_mem_cons.mpr ⟨iw_482, List.forall_mem_cons.mpr ⟨iw_483, List.forall_mem_cons.mpr ⟨iw_484, List.forall_mem_cons.mpr ⟨iw_485, List.forall_mem_cons.mpr ⟨iw_486, List.forall_mem_cons.mpr ⟨iw_487, List.forall_mem_cons.mpr ⟨iw_488, List.forall_mem_cons.mpr ⟨iw_489, List.forall_mem_cons.mpr ⟨iw_490, List.forall_mem_cons.mpr ⟨iw_491, List.forall_mem_cons.mpr ⟨iw_492, List.forall_mem_cons.mpr ⟨iw_493, List.forall_mem_cons.mpr ⟨iw_494, List.forall_mem_cons.mpr ⟨iw_495, List.forall_mem_cons.mpr ⟨iw_496, List.forall_mem_cons.mpr ⟨iw_497, List.forall_mem_cons.mpr ⟨iw_498, List.forall_mem_cons.mpr ⟨iw_499, List.forall_mem_cons.mpr ⟨iw_500, List.forall_mem_cons.mpr ⟨iw_501, fun _ h => absurd h List.not_mem_nil⟩⟩⟩⟩⟩⟩⟩⟩⟩⟩⟩⟩⟩⟩⟩⟩⟩⟩⟩⟩⟩⟩⟩⟩
theorem ir_22 : ∀ w ∈ wsL_law0_r22, w ∈ lw_tbl := List.forall_mem_cons.mpr ⟨iw_502, List.forall_mem_cons.mpr ⟨iw_503, List.forall_mem_cons.mpr ⟨iw_504, List.forall_mem_cons.mpr ⟨iw_505, List.forall_mem_cons.mpr ⟨iw_506, List.forall_mem_cons.mpr ⟨iw_507, List.forall_mem_cons.mpr ⟨iw_508, List.forall_mem_cons.mpr ⟨iw_509, List.forall_mem_cons.mpr ⟨iw_510, List.forall_mem_cons.mpr ⟨iw_511, List.forall_mem_cons.mpr ⟨iw_512, List.forall_mem_cons.mpr ⟨iw_513, List.forall_mem_cons.mpr ⟨iw_514, List.forall_mem_cons.mpr ⟨iw_515, List.forall_mem_cons.mpr ⟨iw_516, List.forall_mem_cons.mpr ⟨iw_517, List.forall_mem_cons.mpr ⟨iw_518, List.forall_mem_cons.mpr ⟨iw_519, List.forall_mem_cons.mpr ⟨iw_520, List.forall_mem_cons.mpr ⟨iw_521, List.forall_mem_cons.mpr ⟨iw_522, List.forall_mem_cons.mpr ⟨iw_523, List.forall_mem_cons.mpr ⟨iw_524, List.forall_mem_cons.mpr ⟨iw_525, fun _ h => absurd h List.not_mem_nil⟩⟩⟩⟩⟩⟩⟩⟩⟩⟩⟩⟩⟩⟩⟩⟩⟩⟩⟩⟩⟩⟩⟩⟩
theorem ir_23 : ∀ w ∈ wsL_law0_r23, w ∈ lw_tbl := List.forall_mem_cons.mpr ⟨iw_526, List.forall_mem_cons.mpr ⟨iw_527, List.forall_mem_cons.mpr ⟨iw_528, List.forall_mem_cons.mpr ⟨iw_529, List.forall_mem_cons.mpr ⟨iw_530, List.forall_mem_cons.mpr ⟨iw_531, List.forall_mem_cons.mpr ⟨iw_532, List.forall_mem_cons.mpr ⟨iw_533, List.forall_mem_cons.mpr ⟨iw_534, List.forall_mem_cons.mpr ⟨iw_535, List.forall_mem_cons.mpr ⟨iw_536, List.forall_mem_cons.mpr ⟨iw_537, List.forall_mem_cons.mpr ⟨iw_538, List.forall_mem_cons.mpr ⟨iw_539, List.forall_mem_cons.mpr ⟨iw_540, List.forall_mem_cons.mpr ⟨iw_541, List.forall_mem_cons.mpr ⟨iw_542, List.forall_mem_cons.mpr ⟨iw_543, List.forall_mem_cons.mpr ⟨iw_544, List.forall_mem_cons.mpr ⟨iw_545, List.forall_mem_cons.mpr ⟨iw_546, List.forall_mem_cons.mpr ⟨iw_547, List.forall_mem_cons.mpr ⟨iw_548, List.forall_mem_cons.mpr ⟨iw_549, fun _ h => absurd h List.not_mem_nil⟩⟩⟩⟩⟩⟩⟩⟩⟩⟩⟩⟩⟩⟩⟩⟩⟩⟩⟩⟩⟩⟩⟩⟩
theorem ir_24 : ∀ w ∈ wsL_law0_r24, w ∈ lw_tbl := List.forall_mem_cons.mpr ⟨iw_550, List.forall_mem_cons.mpr ⟨iw_551, List.forall_mem_cons.mpr ⟨iw_552, List.forall_mem_cons.mpr ⟨iw_553, List.forall_mem_cons.mpr ⟨iw_554, List.forall_mem_cons.mpr ⟨iw_555, List.forall_mem_cons.mpr ⟨iw_556, List.forall_mem_cons.mpr ⟨iw_557, List.forall_mem_cons.mpr ⟨iw_558, List.forall_mem_cons.mpr ⟨iw_559, List.forall_mem_cons.mpr ⟨iw_560, List.forall_mem_cons.mpr ⟨iw_561, List.forall_mem_cons.mpr ⟨iw_562, List.forall_mem_cons.mpr ⟨iw_563, List.forall_mem_cons.mpr ⟨iw_564, List.forall_mem_cons.mpr ⟨iw_565, List.forall_mem_cons.mpr ⟨iw_566, List.forall_mem_cons.mpr ⟨iw_567, List.forall_mem_cons.mpr ⟨iw_568, List.forall_mem_cons.mpr ⟨iw_569, List.forall_mem_cons.mpr ⟨iw_570, List.forall_mem_cons.mpr ⟨iw_571, List.forall_mem_cons.mpr ⟨iw_572, List.forall_mem_cons.mpr ⟨iw_573, fun _ h => absurd h List.not_mem_nil⟩⟩⟩⟩⟩⟩⟩⟩⟩⟩⟩⟩⟩⟩⟩⟩⟩⟩⟩⟩⟩⟩⟩⟩
theorem ir_25 : ∀ w ∈ wsL_law0_r25, w ∈ lw_tbl := List.forall_mem_cons.mpr ⟨iw_574, List.forall_mem_cons.mpr ⟨iw_575, List.forall_mem_cons.mpr ⟨iw_576, List.forall_mem_cons.mpr ⟨iw_577, List.forall_mem_cons.mpr ⟨iw_578, List.forall_mem_cons.mpr ⟨iw_579, List.forall_mem_cons.mpr ⟨iw_580, List.forall_mem_cons.mpr ⟨iw_581, List.forall_mem_cons.mpr ⟨iw_582, List.forall_mem_cons.mpr ⟨iw_583, List.forall_mem_cons.mpr ⟨iw_584, List.forall_mem_cons.mpr ⟨iw_585, List.forall_mem_cons.mpr ⟨iw_586, List.forall_mem_cons.mpr ⟨iw_587, List.forall_mem_cons.mpr ⟨iw_588, List.forall_mem_cons.mpr ⟨iw_589, List.forall_mem_cons.mpr ⟨iw_590, List.forall_mem_cons.mpr ⟨iw_591, List.forall_mem_cons.mpr ⟨iw_592, List.forall_mem_cons.mpr ⟨iw_593, List.forall_mem_cons.mpr ⟨iw_594, List.forall_mem_cons.mpr ⟨iw_595, List.forall_mem_cons.mpr ⟨iw_596, List.forall_mem_cons.mpr ⟨iw_597, fun _ h => absurd h List.not_mem_nil⟩⟩⟩⟩⟩⟩⟩⟩⟩⟩⟩⟩⟩⟩⟩⟩⟩⟩⟩⟩⟩⟩⟩⟩
theorem ir_26 : ∀ w ∈ wsL_law0_r26, w ∈ lw_tbl := List.forall_mem_cons.mpr ⟨iw_598, List.forall_mem_cons.mpr ⟨iw_599, List.forall_mem_cons.mpr ⟨iw_600, List.forall_mem_cons.mpr ⟨iw_601, List.forall_mem_cons.mpr ⟨iw_602, List.forall_mem_cons.mpr ⟨iw_603, List.forall_mem_cons.mpr ⟨iw_604, List.forall_mem_cons.mpr ⟨iw_605, List.forall_mem_cons.mpr ⟨iw_606, List.forall_mem_cons.mpr ⟨iw_607, List.forall_mem_cons.mpr ⟨iw_608, List.forall_mem_cons.mpr ⟨iw_609, List.forall_mem_cons.mpr ⟨iw_610, List.forall_mem_cons.mpr ⟨iw_611, List.forall_mem_cons.mpr ⟨iw_612, List.forall_mem_cons.mpr ⟨iw_613, List.forall_mem_cons.mpr ⟨iw_614, List.forall_mem_cons.mpr ⟨iw_615, List.forall_mem_cons.mpr ⟨iw_616, List.forall_mem_cons.mpr ⟨iw_617, List.forall_mem_cons.mpr ⟨iw_618, List.forall_mem_cons.mpr ⟨iw_619, List.forall_mem_cons.mpr ⟨iw_620, List.forall_mem_cons.mpr ⟨iw_621, fun _ h => absurd h List.not_mem_nil⟩⟩⟩⟩⟩⟩⟩⟩⟩⟩⟩⟩⟩⟩⟩⟩⟩⟩⟩⟩⟩⟩⟩⟩
theorem ir_27 : ∀ w ∈ wsL_law0_r27, w ∈ lw_tbl := List.forall_mem_cons.mpr ⟨iw_622, List.forall_mem_cons.mpr ⟨iw_623, List.forall_mem_cons.mpr ⟨iw_624, List.forall_mem_cons.mpr ⟨iw_625, List.forall_mem_cons.mpr ⟨iw_626, List.forall_mem_cons.mpr ⟨iw_627, List.forall_mem_cons.mpr ⟨iw_628, List.forall_mem_cons.mpr ⟨iw_629, List.forall_mem_cons.mpr ⟨iw_630, List.forall_mem_cons.mpr ⟨iw_631, List.forall_mem_cons.mpr ⟨iw_632, List.forall_mem_cons.mpr ⟨iw_633, List.forall_mem_cons.mpr ⟨iw_634, List.forall_mem_cons.mpr ⟨iw_635, List.forall_mem_cons.mpr ⟨iw_636, List.forall_mem_cons.mpr ⟨iw_637, List.forall_mem_cons.mpr ⟨iw_638, List.forall_mem_cons.mpr ⟨iw_639, List.forall_mem_cons.mpr ⟨iw_640, List.forall_mem_cons.mpr ⟨iw_641, List.forall_mem_cons.mpr ⟨iw_642, List.forall_mem_cons.mpr ⟨iw_643, List.forall_mem_cons.mpr ⟨iw_644, List.forall_mem_cons.mpr ⟨iw_645, fun _ h => absurd h List.not_mem_nil⟩⟩⟩⟩⟩⟩⟩⟩⟩⟩⟩⟩⟩⟩⟩⟩⟩⟩⟩⟩⟩⟩⟩⟩
theorem ir_28 : ∀ w ∈ wsL_law0_r28, w ∈ lw_tbl := List.forall_mem_cons.mpr ⟨iw_646, List.forall_mem_cons.mpr ⟨iw_647, List.forall_mem_cons.mpr ⟨iw_648, List.forall_mem_cons.mpr ⟨iw_649, List.forall_mem_cons.mpr ⟨iw_650, List.forall_mem_cons.mpr ⟨iw_651, List.forall_mem_cons.mpr ⟨iw_652, List.forall_mem_cons.mpr ⟨iw_653, List.forall_mem_cons.mpr ⟨iw_654, List.forall_mem_cons.mpr ⟨iw_655, List.forall_mem_cons.mpr ⟨iw_656, List.forall_mem_cons.mpr ⟨iw_657, List.forall_mem_cons.mpr ⟨iw_658, List.forall_mem_cons.mpr ⟨iw_659, List.forall_mem_cons.mpr ⟨iw_660, List.forall_mem_cons.mpr ⟨iw_661, List.forall_mem_cons.mpr ⟨iw_662, List.forall_mem_cons.mpr ⟨iw_663, List.forall_mem_cons.mpr ⟨iw_664, List.forall_mem_cons.mpr ⟨iw_665, List.forall_mem_cons.mpr ⟨iw_666, List.forall_mem_cons.mpr ⟨iw_667, List.forall_mem_cons.mpr ⟨iw_668, List.forall_mem_cons.mpr ⟨iw_669, fun _ h => absurd h List.not_mem_nil⟩⟩⟩⟩⟩⟩⟩⟩⟩⟩⟩⟩⟩⟩⟩⟩⟩⟩⟩⟩⟩⟩⟩⟩
theorem ir_29 : ∀ w ∈ wsL_law0_r29, w ∈ lw_tbl := List.forall_mem_cons.mpr ⟨iw_670, List.forall_mem_cons.mpr ⟨iw_671, List.forall_mem_cons.mpr ⟨iw_672, List.forall_mem_cons.mpr ⟨iw_673, List.forall_mem_cons.mpr ⟨iw_674, List.forall_mem_cons.mpr ⟨iw_675, List.forall_mem_cons.mpr ⟨iw_676, List.forall_mem_cons.mpr ⟨iw_677, List.forall_mem_cons.mpr ⟨iw_678, List.forall_mem_cons.mpr ⟨iw_679, List.forall_mem_cons.mpr ⟨iw_680, List.forall_mem_cons.mpr ⟨iw_681, List.forall_mem_cons.mpr ⟨iw_682, List.forall_mem_cons.mpr ⟨iw_683, List.forall_mem_cons.mpr ⟨iw_684, List.forall_mem_cons.mpr ⟨iw_685, List.forall_mem_cons.mpr ⟨iw_686, List.forall_mem_cons.mpr ⟨iw_687, List.forall_mem_cons.mpr ⟨iw_688, List.forall_mem_cons.mpr ⟨iw_689, List.forall_mem_cons.mpr ⟨iw_690, List.forall_mem_cons.mpr ⟨iw_691, List.forall_mem_cons.mpr ⟨iw_692, List.forall_mem_cons.mpr ⟨iw_693, fun _ h => absurd h List.not_mem_nil⟩⟩⟩⟩⟩⟩⟩⟩⟩⟩⟩⟩⟩⟩⟩⟩⟩⟩⟩⟩⟩⟩⟩⟩
theorem ir_30 : ∀ w ∈ wsL_law0_r30, w ∈ lw_tbl := List.forall_mem_cons.mpr ⟨iw_694, List.forall_mem_cons.mpr ⟨iw_695, List.forall_mem_cons.mpr ⟨iw_696, List.forall_mem_cons.mpr ⟨iw_697, List.forall_mem_cons.mpr ⟨iw_698, List.forall_mem_cons.mpr ⟨iw_699, List.forall_mem_cons.mpr ⟨iw_700, List.forall_mem_cons.mpr ⟨iw_701, List.forall_mem_cons.mpr ⟨iw_702, List.forall_mem_cons.mpr ⟨iw_703, List.forall_mem_cons.mpr ⟨iw_704, List.forall_mem_cons.mpr ⟨iw_705, List.forall_mem_cons.mpr ⟨iw_706, List.forall_mem_cons.mpr ⟨iw_707, List.forall_mem_cons.mpr ⟨iw_708, List.forall_mem_cons.mpr ⟨iw_709, List.forall_mem_cons.mpr ⟨iw_710, List.forall_mem_cons.mpr ⟨iw_711, List.forall_mem_cons.mpr ⟨iw_712, List.forall_mem_cons.mpr ⟨iw_713, List.forall_mem_cons.mpr ⟨iw_714, List.forall_mem_cons.mpr ⟨iw_715, List.forall_mem_cons.mpr ⟨iw_716, List.forall_mem_cons.mpr ⟨iw_717, fun _ h => absurd h List.not_mem_nil⟩⟩⟩⟩⟩⟩⟩⟩⟩⟩⟩⟩⟩⟩⟩⟩⟩⟩⟩⟩⟩⟩⟩⟩
theorem ir_31 : ∀ w ∈ wsL_law0_r31, w ∈ lw_tbl := List.forall_mem_cons.mpr ⟨iw_718, List.forall_mem_cons.mpr ⟨iw_719, List.forall_mem_cons.mpr ⟨iw_720, List.forall_mem_cons.mpr ⟨iw_721, List.forall_mem_cons.mpr ⟨iw_722, List.forall_mem_cons.mpr ⟨iw_723, List.forall_mem_cons.mpr ⟨iw_724, List.forall_mem_cons.mpr ⟨iw_725, List.forall_mem_cons.mpr ⟨iw_726, List.forall_mem_cons.mpr ⟨iw_727, List.forall_mem_cons.mpr ⟨iw_728, List.forall_mem_cons.mpr ⟨iw_729, List.forall_mem_cons.mpr ⟨iw_730, List.forall_mem_cons.mpr ⟨iw_731, List.forall_mem_cons.mpr ⟨iw_732, List.forall_mem_cons.mpr ⟨iw_733, List.forall_mem_cons.mpr ⟨iw_734, List.forall_mem_cons.mpr ⟨iw_735, List.forall_mem_cons.mpr ⟨iw_736, List.forall_mem_cons.mpr ⟨iw_737, List.forall_mem_cons.mpr ⟨iw_738, List.forall_mem_cons.mpr ⟨iw_739, List.forall_mem_cons.mpr ⟨iw_740, List.forall_mem_cons.mpr ⟨iw_741, fun _ h => absurd h List.not_mem_nil⟩⟩⟩⟩⟩⟩⟩⟩⟩⟩⟩⟩⟩⟩⟩⟩⟩⟩⟩⟩⟩⟩⟩⟩
theorem ir_32 : ∀ w ∈ wsL_law0_r32, w ∈ lw_tbl := List.forall_mem_cons.mpr ⟨iw_742, List.forall_mem_cons.mpr ⟨iw_743, List.forall_mem_cons.mpr ⟨iw_744, List.forall_mem_cons.mpr ⟨iw_745, List.forall_mem_cons.mpr ⟨iw_746, List.forall_mem_cons.mpr ⟨iw_747, List.forall_mem_cons.mpr ⟨iw_748, List.forall_mem_cons.mpr ⟨iw_749, List.forall_mem_cons.mpr ⟨iw_750, fun _ h => absurd h List.not_mem_nil⟩⟩⟩⟩⟩⟩⟩⟩⟩
theorem if_wsX110 : ∀ w ∈ wsX110, w ∈ lw_tbl := by decide +kernel
theorem if_wsX120 : ∀ w ∈ wsX120, w ∈ lw_tbl := by decide +kernel
theorem if_wsJx4a65c0 : ∀ w ∈ wsJx4a65c0, w ∈ lw_tbl := by decide +kernel
theorem if_wsX40 : ∀ w ∈ wsX40, w ∈ lw_tbl := by decide +kernel
theorem if_wsX90 : ∀ w ∈ wsX90, w ∈ lw_tbl := by decide +kernel
theorem if_wsX50 : ∀ w ∈ wsX50, w ∈ lw_tbl := by decide +kernel
theorem if_wsX80 : ∀ w ∈ wsX80, w ∈ lw_tbl := by decide +kernel
theorem if_wsX100 : ∀ w ∈ wsX100, w ∈ lw_tbl := by decide +kernel
theorem if_wsX60 : ∀ w ∈ wsX60, w ∈ lw_tbl := by decide +kernel
theorem if_wsX70 : ∀ w ∈ wsX70, w ∈ lw_tbl := by decide +kernel
theorem if_wsX00 : ∀ w ∈ wsX00, w ∈ lw_tbl := by decide +kernel
theorem if_wsX20 : ∀ w ∈ wsX20, w ∈ lw_tbl := by decide +kernel
theorem if_wsX10 : ∀ w ∈ wsX10, w ∈ lw_tbl := by decide +kernel
set_option maxRecDepth 20000 in
theorem wsL_law_in0 : ∀ w ∈ wsL_law0, w ∈ lw_tbl := (List.forall_mem_append.mpr ⟨(List.forall_mem_append.mpr ⟨(List.forall_mem_append.mpr ⟨(List.forall_mem_append.mpr ⟨(List.forall_mem_append.mpr ⟨(List.forall_mem_append.mpr ⟨(List.forall_mem_append.mpr ⟨(List.forall_mem_append.mpr ⟨(List.forall_mem_append.mpr ⟨(List.forall_mem_append.mpr ⟨(List.forall_mem_append.mpr ⟨(List.forall_mem_append.mpr ⟨(List.forall_mem_append.mpr ⟨(List.forall_mem_append.mpr ⟨(List.forall_mem_append.mpr ⟨ir_1, (List.forall_mem_append.mpr ⟨ir_2, (List.forall_mem_append.mpr ⟨ir_3, (List.forall_mem_append.mpr ⟨ir_4, (List.forall_mem_append.mpr ⟨ir_5, (List.forall_mem_append.mpr ⟨ir_6, (List.forall_mem_append.mpr ⟨ir_7, (List.forall_mem_append.mpr ⟨ir_8, (List.forall_mem_append.mpr ⟨ir_9, (List.forall_mem_append.mpr ⟨ir_10, (List.forall_mem_append.mpr ⟨ir_11, (List.forall_mem_append.mpr ⟨ir_12, (List.forall_mem_append.mpr ⟨ir_13, (List.forall_mem_append.mpr ⟨ir_14, (List.forall_mem_append.mpr ⟨ir_15, (List.forall_mem_append.mpr ⟨ir_16, (List.forall_mem_append.mpr ⟨ir_17, (List.forall_mem_append.mpr ⟨ir_18, (List.forall_mem_append.mpr ⟨ir_19, (List.forall_mem_append.mpr ⟨ir_20, (List.forall_mem_append.mpr ⟨ir_21, (List.forall_mem_append.mpr ⟨ir_22, (List.forall_mem_append.mpr ⟨ir_23, (List.forall_mem_append.mpr ⟨ir_24, (List.forall_mem_append.mpr ⟨ir_25, (List.forall_mem_append.mpr ⟨ir_26, (List.forall_mem_append.mpr ⟨ir_27, (List.forall_mem_append.mpr ⟨ir_28, (List.forall_mem_append.mpr ⟨ir_29, (List.forall_mem_append.mpr ⟨ir_30, (List.forall_mem_append.mpr ⟨ir_31, ir_32⟩)⟩)⟩)⟩)⟩)⟩)⟩)⟩)⟩)⟩)⟩)⟩)⟩)⟩)⟩)⟩)⟩)⟩)⟩)⟩)⟩)⟩)⟩)⟩)⟩)⟩)⟩)⟩)⟩)⟩)⟩), if_wsX110⟩), if_wsX120⟩), if_wsJx4a65c0⟩), if_wsX40⟩), if_wsX90⟩), if_wsX50⟩), if_wsX80⟩), if_wsX100⟩), if_wsX60⟩), if_wsX70⟩), if_wsX00⟩), if_wsX20⟩), if_wsX10⟩), fun _ h => absurd h List.not_mem_nil⟩)
theorem wsL_law_x0 : ∀ w ∈ (vx_atS RX11 62 "java/lang/IllegalArgumentException" ["java/lang/RuntimeException", "java/lang/Exception"]).filter goodWord, w ∈ lw_tbl := by decide +kernel
theorem wsL_law_x1 : ∀ w ∈ (vx_atS RX11 73 "java/lang/IllegalStateException" ["java/lang/RuntimeException", "java/lang/Exception"]).filter goodWord, w ∈ lw_tbl := by decide +kernel
theorem wsL_law_x2 : ∀ w ∈ (vx_atS RX11 87 "java/lang/IndexOutOfBoundsException" ["java/lang/RuntimeException", "java/lang/Exception"]).filter goodWord, w ∈ lw_tbl := by decide +kernel
theorem wsL_law_in : ∀ w ∈ wsL_law, w ∈ lw_tbl := fun w h => (List.mem_append.mp h).elim (fun h => (List.mem_append.mp h).elim (fun h => (List.mem_append.mp h).elim (fun h => wsL_law_in0 w h) (fun h => wsL_law_x0 w h)) (fun h => wsL_law_x1 w h)) (fun h => wsL_law_x2 w h)
theorem inlX0 : ∀ w ∈ wsX00, w ∈ wsL_law := fun _ h => List.mem_append_left _ (List.mem_append_left _ (List.mem_append_left _ (List.mem_append_left _ (List.mem_append_left _ (List.mem_append_left _ (List.mem_append_right _ h))))))
theorem inX0 : ∀ w ∈ wsX00, w ∈ lw_tbl := fun w h => wsL_law_in w (inlX0 w h)
theorem inlX1 : ∀ w ∈ wsX10, w ∈ wsL_law := fun _ h => List.mem_append_left _ (List.mem_append_left _ (List.mem_append_left _ (List.mem_append_left _ (List.mem_append_right _ h))))
theorem inX1 : ∀ w ∈ wsX10, w ∈ lw_tbl := fun w h => wsL_law_in w (inlX1 w h)
theorem inlX2 : ∀ w ∈ wsX20, w ∈ wsL_law := fun _ h => List.mem_append_left _ (List.mem_append_left _ (List.mem_append_left _ (List.mem_append_left _ (List.mem_append_left _ (List.mem_append_right _ h)))))
theorem inX2 : ∀ w ∈ wsX20, w ∈ lw_tbl := fun w h => wsL_law_in w (inlX2 w h)
theorem inX3 : ∀ w ∈ wsX30, w ∈ lw_tbl := by decide +kernel
theorem inlX4 : ∀ w ∈ wsX40, w ∈ wsL_law := fun _ h => List.mem_append_left _ (List.mem_append_left _ (List.mem_append_left _ (List.mem_append_left _ (List.mem_append_left _ (List.mem_append_left _ (List.mem_append_left _ (List.mem_append_left _ (List.mem_append_left _ (List.mem_append_left _ (List.mem_append_left _ (List.mem_append_left _ (List.mem_append_left _ (List.mem_append_right _ h)))))))))))))
theorem inX4 : ∀ w ∈ wsX40, w ∈ lw_tbl := fun w h => wsL_law_in w (inlX4 w h)
theorem inlX5 : ∀ w ∈ wsX50, w ∈ wsL_law := fun _ h => List.mem_append_left _ (List.mem_append_left _ (List.mem_append_left _ (List.mem_append_left _ (List.mem_append_left _ (List.mem_append_left _ (List.mem_append_left _ (List.mem_append_left _ (List.mem_append_left _ (List.mem_append_left _ (List.mem_append_left _ (List.mem_append_right _ h)))))))))))
theorem inX5 : ∀ w ∈ wsX50, w ∈ lw_tbl := fun w h => wsL_law_in w (inlX5 w h)
theorem inlX6 : ∀ w ∈ wsX60, w ∈ wsL_law := fun _ h => List.mem_append_left _ (List.mem_append_left _ (List.mem_append_left _ (List.mem_append_left _ (List.mem_append_left _ (List.mem_append_left _ (List.mem_append_left _ (List.mem_append_left _ (List.mem_append_right _ h))))))))
theorem inX6 : ∀ w ∈ wsX60, w ∈ lw_tbl := fun w h => wsL_law_in w (inlX6 w h)
theorem inlX7 : ∀ w ∈ wsX70, w ∈ wsL_law := fun _ h => List.mem_append_left _ (List.mem_append_left _ (List.mem_append_left _ (List.mem_append_left _ (List.mem_append_left _ (List.mem_append_left _ (List.mem_append_left _ (List.mem_append_right _ h)))))))
theorem inX7 : ∀ w ∈ wsX70, w ∈ lw_tbl := fun w h => wsL_law_in w (inlX7 w h)
theorem inlX8 : ∀ w ∈ wsX80, w ∈ wsL_law := fun _ h => List.mem_append_left _ (List.mem_append_left _ (List.mem_append_left _ (List.mem_append_left _ (List.mem_append_left _ (List.mem_append_left _ (List.mem_append_left _ (List.mem_append_left _ (List.mem_append_left _ (List.mem_append_left _ (List.mem_append_right _ h))))))))))
theorem inX8 : ∀ w ∈ wsX80, w ∈ lw_tbl := fun w h => wsL_law_in w (inlX8 w h)
theorem inlX9 : ∀ w ∈ wsX90, w ∈ wsL_law := fun _ h => List.mem_append_left _ (List.mem_append_left _ (List.mem_append_left _ (List.mem_append_left _ (List.mem_append_left _ (List.mem_append_left _ (List.mem_append_left _ (List.mem_append_left _ (List.mem_append_left _ (List.mem_append_left _ (List.mem_append_left _ (List.mem_append_left _ (List.mem_append_right _ h))))))))))))
theorem inX9 : ∀ w ∈ wsX90, w ∈ lw_tbl := fun w h => wsL_law_in w (inlX9 w h)
theorem inlX10 : ∀ w ∈ wsX100, w ∈ wsL_law := fun _ h => List.mem_append_left _ (List.mem_append_left _ (List.mem_append_left _ (List.mem_append_left _ (List.mem_append_left _ (List.mem_append_left _ (List.mem_append_left _ (List.mem_append_left _ (List.mem_append_left _ (List.mem_append_right _ h)))))))))
theorem inX10 : ∀ w ∈ wsX100, w ∈ lw_tbl := fun w h => wsL_law_in w (inlX10 w h)
theorem inlX11 : ∀ w ∈ wsX110, w ∈ wsL_law := fun _ h => List.mem_append_left _ (List.mem_append_left _ (List.mem_append_left _ (List.mem_append_left _ (List.mem_append_left _ (List.mem_append_left _ (List.mem_append_left _ (List.mem_append_left _ (List.mem_append_left _ (List.mem_append_left _ (List.mem_append_left _ (List.mem_append_left _ (List.mem_append_left _ (List.mem_append_left _ (List.mem_append_left _ (List.mem_append_left _ (List.mem_append_right _ h))))))))))))))))
theorem inX11 : ∀ w ∈ wsX110, w ∈ lw_tbl := fun w h => wsL_law_in w (inlX11 w h)
theorem inlX12 : ∀ w ∈ wsX120, w ∈ wsL_law := fun _ h => List.mem_append_left _ (List.mem_append_left _ (List.mem_append_left _ (List.mem_append_left _ (List.mem_append_left _ (List.mem_append_left _ (List.mem_append_left _ (List.mem_append_left _ (List.mem_append_left _ (List.mem_append_left _ (List.mem_append_left _ (List.mem_append_left _ (List.mem_append_left _ (List.mem_append_left _ (List.mem_append_left _ (List.mem_append_right _ h)))))))))))))))
theorem inX12 : ∀ w ∈ wsX120, w ∈ lw_tbl := fun w h => wsL_law_in w (inlX12 w h)
theorem inJx145de : ∀ w ∈ wsJx145de0, w ∈ lw_tbl := by decide +kernel
theorem inJx8e188 : ∀ w ∈ wsJx8e1880, w ∈ lw_tbl := by decide +kernel
theorem inJxab1ab : ∀ w ∈ wsJxab1ab0, w ∈ lw_tbl := by decide +kernel
theorem inJ9 : ∀ w ∈ wsJ90, w ∈ lw_tbl := by decide +kernel
theorem inJ0 : ∀ w ∈ wsJ00, w ∈ lw_tbl := by decide +kernel
theorem inJ10 : ∀ w ∈ wsJ100, w ∈ lw_tbl := by decide +kernel
theorem inJxa1e45 : ∀ w ∈ wsJxa1e450, w ∈ lw_tbl := by decide +kernel
theorem inJxc12de : ∀ w ∈ wsJxc12de0, w ∈ lw_tbl := by decide +kernel
theorem inlJx4a65c : ∀ w ∈ wsJx4a65c0, w ∈ wsL_law := fun _ h => List.mem_append_left _ (List.mem_append_left _ (List.mem_append_left _ (List.mem_append_left _ (List.mem_append_left _ (List.mem_append_left _ (List.mem_append_left _ (List.mem_append_left _ (List.mem_append_left _ (List.mem_append_left _ (List.mem_append_left _ (List.mem_append_left _ (List.mem_append_left _ (List.mem_append_left _ (List.mem_append_right _ h))))))))))))))
theorem inJx4a65c : ∀ w ∈ wsJx4a65c0, w ∈ lw_tbl := fun w h => wsL_law_in w (inlJx4a65c w h)
theorem inJ7 : ∀ w ∈ wsJ70, w ∈ lw_tbl := by decide +kernel
theorem inJx5ef63 : ∀ w ∈ wsJx5ef630, w ∈ lw_tbl := by decide +kernel
theorem inJxbd725 : ∀ w ∈ wsJxbd7250, w ∈ lw_tbl := by decide +kernel
theorem inJ15 : ∀ w ∈ wsJ150, w ∈ lw_tbl := by decide +kernel
theorem inJxf0a74 : ∀ w ∈ wsJxf0a740, w ∈ lw_tbl := by decide +kernel
theorem inJxa66e6 : ∀ w ∈ wsJxa66e60, w ∈ lw_tbl := by decide +kernel
theorem inJ8 : ∀ w ∈ wsJ80, w ∈ lw_tbl := by decide +kernel
theorem inJ3 : ∀ w ∈ wsJ30, w ∈ lw_tbl := by decide +kernel
end
section
/-! ===== the walk's own judgement: the heap is seen through a picture 'pic x H' of one's own; locals are a list ===== -/
/-- ArrayList's shared empty array, at z0 -/
def kz (z0 : Nat) (A : Nat → Prop) (U : State) (H : Heap) : Prop :=
  va_Z "java/util/ArrayList" "DEFAULTCAPACITY_EMPTY_ELEMENTDATA" "[Ljava/lang/Object;" (.ref z0) A U H ∧ ¬ A z0 ∧ ∃ cell : Cell, H[z0]? = some cell ∧ U.isArrayOf cell (.object "java/lang/Object") ∧ cell.slots.size = 0
theorem kz.moved {z0 : Nat} {A : Nat → Prop} {u U : State} {H : Heap} (hvm : u.vm.Alike U.vm) (h : kz z0 A u H) : kz z0 A U H := by
  obtain ⟨h1, h2, cell, h3, h4, h5⟩ := h
  exact ⟨h1.moved hvm, h2, cell, h3, State.isArrayOf_alike hvm h4, h5⟩
theorem kz.kept {z0 : Nat} {A : Nat → Prop} {U : State} {H H1 : Heap} (h : kz z0 A U H) (hq : ∀ a : Nat, a < H.size → ¬ A a → H1[a]? = H[a]?) : kz z0 A U H1 := by
  obtain ⟨h1, h2, cell, h3, h4, h5⟩ := h
  exact ⟨h1.kept hq, h2, cell, by rw [hq z0 (Array.getElem?_eq_some_iff.mp h3).1 h2]; exact h3, h4, h5⟩
/-- the tables, where new cells may come, and the statics, as a state has them -/
def kw (D : va_G) (tys : List (ClassId × FieldType)) (z0 : Nat) (A : Nat → Prop) (U : State) : Prop :=
  va_K D vwCl tys U ∧ (∀ q, U.heap.size ≤ q → A q) ∧ vx_Zq Bundle.tN "UNASSIGNED_STACK" Bundle.steD A U U.heap ∧ vx_Zq Bundle.tN "SUPPRESSED_SENTINEL" Bundle.listD A U U.heap ∧ kz z0 A U U.heap
theorem kw.step {D : va_G} {tys : List (ClassId × FieldType)} {z0 : Nat} {A : Nat → Prop} {s U : State} {H : Heap} {locs : List Loc} (h : kw D tys z0 A s) (hS : va_S A s.heap H locs) (hU : U.heap = H) (hW : s.vm.Alike U.vm) : kw D tys z0 A U := by
  obtain ⟨h1, h2, h3, h4, h5⟩ := h
  have hq : ∀ a : Nat, a < s.heap.size → ¬ A a → H[a]? = s.heap[a]? := hS.2.1
  refine ⟨h1.moved hW, fun q hz => h2 q (Nat.le_trans hS.1 (by rw [← hU]; exact hz)), ?_, ?_, ?_⟩
  · rw [hU]; exact (h3.moved hW).kept hq
  · rw [hU]; exact (h4.moved hW).kept hq
  · rw [hU]; exact (h5.moved hW).kept hq
def cx (p : Program) (s : State) (m : MethodId) (args : Array Value) (meth : Method) (c : Code) (cc : ByteArray) (nL : Nat) (Ts : List Cond) (own : String) (D : va_G) (tys : List (ClassId × FieldType)) (z0 : Nat) (A : Nat → Prop) : Prop :=
  CallFix p m c cc nL s args Ts own ∧ kw D tys z0 A s ∧ meth.locks = false
def vv {σ : Type} (pic : σ → Heap → Prop) (A : Nat → Prop) (nL : Nat) (p : Program) (l : Launch) (e : Env) (R : Room) (s : State) (m : MethodId) (args : Array Value) (below : List Frame) (meth : Method) (c : Code) (Q : State → Prop) (x : σ) (k n pc : Nat) (lv : List (Nat × Value)) (st : List Value) : Prop :=
  ∀ (H : Heap) (locs : List Loc) (ls : Array Slot), pic x H → va_S A s.heap H locs → lv_has ls nL lv → W p l e R s m args below meth c H locs k n Q (F0 m pc ls st)
/-- what a picture says of field k of the object a, of kind ci -/
def gO {σ : Type} (D : va_G) (pic : σ → Heap → Prop) (x : σ) (ci a k : Nat) (v : Value) : Prop := ∀ H, pic x H → ∃ fs, va_at D vwCl (a, .inr (ci, fs)) H ∧ fs[k]? = some v
/-- the same field written: the picture that comes of it -/
def pO {σ : Type} (D : va_G) (pic : σ → Heap → Prop) (A : Nat → Prop) (x : σ) (ci a k : Nat) (v : Value) (x' : σ) : Prop := ∀ H, pic x H → A a ∧ ∃ fs, va_at D vwCl (a, .inr (ci, fs)) H ∧ k < fs.length ∧ ∀ H', va_at D vwCl (a, .inr (ci, fs.set k v)) H' → H'.size = H.size → (∀ q, q ≠ a → H'[q]? = H[q]?) → pic x' H'
/-- an array a -/
def gA {σ : Type} (pic : σ → Heap → Prop) (x : σ) (cA : ClassId) (a : Nat) (y : vp_A) : Prop := ∀ H, pic x H → H[a]? = some (vp_cell cA y)
def pA {σ : Type} (pic : σ → Heap → Prop) (A : Nat → Prop) (x : σ) (cA : ClassId) (a : Nat) (y y' : vp_A) (x' : σ) : Prop := ∀ H, pic x H → A a ∧ H[a]? = some (vp_cell cA y) ∧ ∀ H', H'[a]? = some (vp_cell cA y') → H'.size = H.size → (∀ q, q ≠ a → H'[q]? = H[q]?) → pic x' H'
/-- a new cell: the picture that comes of it, what is known of its address -/
def nO {σ : Type} (D : va_G) (pic : σ → Heap → Prop) (A : Nat → Prop) (x : σ) (ce : va_E) (x' : Nat → σ) (fr : Nat → Prop) : Prop := ∀ H, pic x H → fr H.size ∧ (A H.size → ∀ H', va_at D vwCl (H.size, ce) H' → H'.size = H.size + 1 → (∀ q, q < H.size → H'[q]? = H[q]?) → pic (x' H.size) H')
section VV
variable {p : Program} {l : Launch} {e : Env} {R : Room} {s : State} {m : MethodId} {args : Array Value} {below : List Frame} {meth : Method} {c : Code} {Q : State → Prop}
variable {σ : Type} {pic : σ → Heap → Prop} {A : Nat → Prop} {D : va_G} {tys : List (ClassId × FieldType)} {z0 : Nat} {cc : ByteArray} {nL : Nat} {Ts : List Cond} {own : String}
variable {x : σ} {k n pc : Nat} {lv : List (Nat × Value)} {st : List Value}
theorem v_sub {lv' : List (Nat × Value)} (ks : List Nat) (hl : lv_pick lv ks = lv') (kk : vv pic A nL p l e R s m args below meth c Q x k n pc lv' st) : vv pic A nL p l e R s m args below meth c Q x k n pc lv st := fun H locs ls hP hS h => kk H locs ls hP hS (lv_sub h ks hl)
theorem v_eq {v w : Value} (h : v = w) (kk : vv pic A nL p l e R s m args below meth c Q x k n pc lv (w :: st)) : vv pic A nL p l e R s m args below meth c Q x k n pc lv (v :: st) := by rw [h]; exact kk
theorem v_int {a b : Int32} (h : a = b) (kk : vv pic A nL p l e R s m args below meth c Q x k n pc lv (.int b :: st)) : vv pic A nL p l e R s m args below meth c Q x k n pc lv (.int a :: st) := by rw [h]; exact kk
theorem v_long {a b : Int64} (h : a = b) (kk : vv pic A nL p l e R s m args below meth c Q x k n pc lv (.long b :: st)) : vv pic A nL p l e R s m args below meth c Q x k n pc lv (.long a :: st) := by rw [h]; exact kk
theorem v_lv {lv' : List (Nat × Value)} (h : lv = lv') (kk : vv pic A nL p l e R s m args below meth c Q x k n pc lv' st) : vv pic A nL p l e R s m args below meth c Q x k n pc lv st := by rw [h]; exact kk
theorem v_x {x' : σ} (h : ∀ H, pic x H → pic x' H) (kk : vv pic A nL p l e R s m args below meth c Q x' k n pc lv st) : vv pic A nL p l e R s m args below meth c Q x k n pc lv st := fun H locs ls hP hS hl => kk H locs ls (h H hP) hS hl
theorem v_use {G : Prop} (h : ∀ H, pic x H → G) (kk : G → vv pic A nL p l e R s m args below meth c Q x k n pc lv st) : vv pic A nL p l e R s m args below meth c Q x k n pc lv st := fun H locs ls hP hS hl => kk (h H hP) H locs ls hP hS hl
theorem v_kn {k' n' : Nat} (hk : k ≤ k') (hn : n ≤ n') (kk : vv pic A nL p l e R s m args below meth c Q x k' n' pc lv st) : vv pic A nL p l e R s m args below meth c Q x k n pc lv st := fun H locs ls hP hS hl => W.widen hk hn (kk H locs ls hP hS hl)
theorem v_iconst (C : cx p s m args meth c cc nL Ts own D tys z0 A) {i : Int} {v : Int32} (d : decode cc pc = .ok (.iconst i, 1)) (hv : Int32.ofInt i = v) (kk : vv pic A nL p l e R s m args below meth c Q x k n (pc + 1) lv (.int v :: st)) : vv pic A nL p l e R s m args below meth c Q x k n pc lv (st) := fun H locs ls hP hS hl => lv_iconst C.1.1 C.1.2.1 d hv (kk H locs ls hP hS hl)
theorem v_bipush (C : cx p s m args meth c cc nL Ts own D tys z0 A) {i : Int} {v : Int32} (d : decode cc pc = .ok (.bipush i, 2)) (hv : (Int8.ofInt i).toInt32 = v) (kk : vv pic A nL p l e R s m args below meth c Q x k n (pc + 2) lv (.int v :: st)) : vv pic A nL p l e R s m args below meth c Q x k n pc lv (st) := fun H locs ls hP hS hl => lv_bipush C.1.1 C.1.2.1 d hv (kk H locs ls hP hS hl)
theorem v_sipush (C : cx p s m args meth c cc nL Ts own D tys z0 A) {i : Int} {v : Int32} (d : decode cc pc = .ok (.sipush i, 3)) (hv : (Int16.ofInt i).toInt32 = v) (kk : vv pic A nL p l e R s m args below meth c Q x k n (pc + 3) lv (.int v :: st)) : vv pic A nL p l e R s m args below meth c Q x k n pc lv (st) := fun H locs ls hP hS hl => lv_sipush C.1.1 C.1.2.1 d hv (kk H locs ls hP hS hl)
theorem v_lconst (C : cx p s m args meth c cc nL Ts own D tys z0 A) {i : Fin 2} {v : Int64} (d : decode cc pc = .ok (.lconst i, 1)) (hv : Int64.ofNat (i : Nat) = v) (kk : vv pic A nL p l e R s m args below meth c Q x k n (pc + 1) lv (.long v :: st)) : vv pic A nL p l e R s m args below meth c Q x k n pc lv (st) := fun H locs ls hP hS hl => lv_lconst C.1.1 C.1.2.1 d hv (kk H locs ls hP hS hl)
theorem v_null (C : cx p s m args meth c cc nL Ts own D tys z0 A)  (d : decode cc pc = .ok (.aconst_null, 1)) (kk : vv pic A nL p l e R s m args below meth c Q x k n (pc + 1) lv (.null :: st)) : vv pic A nL p l e R s m args below meth c Q x k n pc lv (st) := fun H locs ls hP hS hl => lv_null C.1.1 C.1.2.1 d (kk H locs ls hP hS hl)
theorem v_iload_n (C : cx p s m args meth c cc nL Ts own D tys z0 A) {i : Fin 4} {i' j : Nat} {y : Int32} (d : decode cc pc = .ok (.iload_n i, 1)) (h : lv[j]? = some (i', .int y)) (hi : (i : Nat) = i') (kk : vv pic A nL p l e R s m args below meth c Q x k n (pc + 1) lv (.int y :: st)) : vv pic A nL p l e R s m args below meth c Q x k n pc lv (st) := fun H locs ls hP hS hl => lv_iload_n C.1.1 C.1.2.1 d hi (lv_at hl j h) (kk H locs ls hP hS hl)
theorem v_iload (C : cx p s m args meth c cc nL Ts own D tys z0 A) {i j : Nat} {y : Int32} (d : decode cc pc = .ok (.iload i, 2)) (h : lv[j]? = some (i, .int y)) (kk : vv pic A nL p l e R s m args below meth c Q x k n (pc + 2) lv (.int y :: st)) : vv pic A nL p l e R s m args below meth c Q x k n pc lv (st) := fun H locs ls hP hS hl => lv_iload C.1.1 C.1.2.1 d (lv_at hl j h) (kk H locs ls hP hS hl)
theorem v_istore_n (C : cx p s m args meth c cc nL Ts own D tys z0 A) {i : Fin 4} {i' : Nat} {y : Int32} {lv' : List (Nat × Value)} (d : decode cc pc = .ok (.istore_n i, 1)) (hi : (i : Nat) = i') (hn : i' < nL) (hq : (i', Value.int y) :: lv.filter (fun q => !(q.1 == i') && !(q.1 + 1 == i' && q.2.category == 2)) = lv') (kk : vv pic A nL p l e R s m args below meth c Q x k n (pc + 1) lv' st) : vv pic A nL p l e R s m args below meth c Q x k n pc lv (.int y :: st) := fun H locs ls hP hS hl => lv_istore_n C.1.1 C.1.2.1 d hi hl hn hq (fun ls' hl' => kk H locs ls' hP hS hl')
theorem v_istore (C : cx p s m args meth c cc nL Ts own D tys z0 A) {i' : Nat} {y : Int32} {lv' : List (Nat × Value)} (d : decode cc pc = .ok (.istore i', 2)) (hn : i' < nL) (hq : (i', Value.int y) :: lv.filter (fun q => !(q.1 == i') && !(q.1 + 1 == i' && q.2.category == 2)) = lv') (kk : vv pic A nL p l e R s m args below meth c Q x k n (pc + 2) lv' st) : vv pic A nL p l e R s m args below meth c Q x k n pc lv (.int y :: st) := fun H locs ls hP hS hl => lv_istore C.1.1 C.1.2.1 d hl hn hq (fun ls' hl' => kk H locs ls' hP hS hl')
theorem v_lload_n (C : cx p s m args meth c cc nL Ts own D tys z0 A) {i : Fin 4} {i' j : Nat} {y : Int64} (d : decode cc pc = .ok (.lload_n i, 1)) (h : lv[j]? = some (i', .long y)) (hi : (i : Nat) = i') (kk : vv pic A nL p l e R s m args below meth c Q x k n (pc + 1) lv (.long y :: st)) : vv pic A nL p l e R s m args below meth c Q x k n pc lv (st) := fun H locs ls hP hS hl => lv_lload_n C.1.1 C.1.2.1 d hi (lv_at hl j h) (kk H locs ls hP hS hl)
theorem v_lload (C : cx p s m args meth c cc nL Ts own D tys z0 A) {i j : Nat} {y : Int64} (d : decode cc pc = .ok (.lload i, 2)) (h : lv[j]? = some (i, .long y)) (kk : vv pic A nL p l e R s m args below meth c Q x k n (pc + 2) lv (.long y :: st)) : vv pic A nL p l e R s m args below meth c Q x k n pc lv (st) := fun H locs ls hP hS hl => lv_lload C.1.1 C.1.2.1 d (lv_at hl j h) (kk H locs ls hP hS hl)
theorem v_lstore_n (C : cx p s m args meth c cc nL Ts own D tys z0 A) {i : Fin 4} {i' : Nat} {y : Int64} {lv' : List (Nat × Value)} (d : decode cc pc = .ok (.lstore_n i, 1)) (hi : (i : Nat) = i') (hn : i' + 1 < nL) (hq : (i', Value.long y) :: lv.filter (fun q => !(q.1 == i') && (!(q.1 == i' + 1) && !(q.1 + 1 == i' && q.2.category == 2))) = lv') (kk : vv pic A nL p l e R s m args below meth c Q x k n (pc + 1) lv' st) : vv pic A nL p l e R s m args below meth c Q x k n pc lv (.long y :: st) := fun H locs ls hP hS hl => lv_lstore_n C.1.1 C.1.2.1 d hi hl hn hq (fun ls' hl' => kk H locs ls' hP hS hl')
theorem v_lstore (C : cx p s m args meth c cc nL Ts own D tys z0 A) {i' : Nat} {y : Int64} {lv' : List (Nat × Value)} (d : decode cc pc = .ok (.lstore i', 2)) (hn : i' + 1 < nL) (hq : (i', Value.long y) :: lv.filter (fun q => !(q.1 == i') && (!(q.1 == i' + 1) && !(q.1 + 1 == i' && q.2.category == 2))) = lv') (kk : vv pic A nL p l e R s m args below meth c Q x k n (pc + 2) lv' st) : vv pic A nL p l e R s m args below meth c Q x k n pc lv (.long y :: st) := fun H locs ls hP hS hl => lv_lstore C.1.1 C.1.2.1 d hl hn hq (fun ls' hl' => kk H locs ls' hP hS hl')
theorem v_aload_n (C : cx p s m args meth c cc nL Ts own D tys z0 A) {i : Fin 4} {i' j : Nat} {y : Nat} (d : decode cc pc = .ok (.aload_n i, 1)) (h : lv[j]? = some (i', .ref y)) (hi : (i : Nat) = i') (kk : vv pic A nL p l e R s m args below meth c Q x k n (pc + 1) lv (.ref y :: st)) : vv pic A nL p l e R s m args below meth c Q x k n pc lv (st) := fun H locs ls hP hS hl => lv_aload_n C.1.1 C.1.2.1 d hi (lv_at hl j h) (kk H locs ls hP hS hl)
theorem v_aload (C : cx p s m args meth c cc nL Ts own D tys z0 A) {i j : Nat} {y : Nat} (d : decode cc pc = .ok (.aload i, 2)) (h : lv[j]? = some (i, .ref y)) (kk : vv pic A nL p l e R s m args below meth c Q x k n (pc + 2) lv (.ref y :: st)) : vv pic A nL p l e R s m args below meth c Q x k n pc lv (st) := fun H locs ls hP hS hl => lv_aload C.1.1 C.1.2.1 d (lv_at hl j h) (kk H locs ls hP hS hl)
theorem v_astore_n (C : cx p s m args meth c cc nL Ts own D tys z0 A) {i : Fin 4} {i' : Nat} {y : Nat} {lv' : List (Nat × Value)} (d : decode cc pc = .ok (.astore_n i, 1)) (hi : (i : Nat) = i') (hn : i' < nL) (hq : (i', Value.ref y) :: lv.filter (fun q => !(q.1 == i') && !(q.1 + 1 == i' && q.2.category == 2)) = lv') (kk : vv pic A nL p l e R s m args below meth c Q x k n (pc + 1) lv' st) : vv pic A nL p l e R s m args below meth c Q x k n pc lv (.ref y :: st) := fun H locs ls hP hS hl => lv_astore_n C.1.1 C.1.2.1 d hi hl hn hq (fun ls' hl' => kk H locs ls' hP hS hl')
theorem v_astore (C : cx p s m args meth c cc nL Ts own D tys z0 A) {i' : Nat} {y : Nat} {lv' : List (Nat × Value)} (d : decode cc pc = .ok (.astore i', 2)) (hn : i' < nL) (hq : (i', Value.ref y) :: lv.filter (fun q => !(q.1 == i') && !(q.1 + 1 == i' && q.2.category == 2)) = lv') (kk : vv pic A nL p l e R s m args below meth c Q x k n (pc + 2) lv' st) : vv pic A nL p l e R s m args below meth c Q x k n pc lv (.ref y :: st) := fun H locs ls hP hS hl => lv_astore C.1.1 C.1.2.1 d hl hn hq (fun ls' hl' => kk H locs ls' hP hS hl')
theorem v_iinc (C : cx p s m args meth c cc nL Ts own D tys z0 A) {i' j : Nat} {z : Int} {y v : Int32} {lv' : List (Nat × Value)} (d : decode cc pc = .ok (.iinc i' z, 3)) (hk : lv[j]? = some (i', .int y)) (hv : y + Int32.ofInt z = v) (hn : i' < nL) (hq : (i', Value.int v) :: lv.filter (fun q => !(q.1 == i') && !(q.1 + 1 == i' && q.2.category == 2)) = lv') (kk : vv pic A nL p l e R s m args below meth c Q x k n (pc + 3) lv' st) : vv pic A nL p l e R s m args below meth c Q x k n pc lv st := fun H locs ls hP hS hl => lv_iinc (k := j) C.1.1 C.1.2.1 d hl hk hv hn hq (fun ls' hl' => kk H locs ls' hP hS hl')
theorem v_iadd (C : cx p s m args meth c cc nL Ts own D tys z0 A) {a b : Int32} (d : decode cc pc = .ok (.iadd, 1)) (kk : vv pic A nL p l e R s m args below meth c Q x k n (pc + 1) lv (.int (a + b) :: st)) : vv pic A nL p l e R s m args below meth c Q x k n pc lv (.int b :: .int a :: st) := fun H locs ls hP hS hl => lv_iadd C.1.1 C.1.2.1 d (kk H locs ls hP hS hl)
theorem v_isub (C : cx p s m args meth c cc nL Ts own D tys z0 A) {a b : Int32} (d : decode cc pc = .ok (.isub, 1)) (kk : vv pic A nL p l e R s m args below meth c Q x k n (pc + 1) lv (.int (a - b) :: st)) : vv pic A nL p l e R s m args below meth c Q x k n pc lv (.int b :: .int a :: st) := fun H locs ls hP hS hl => lv_isub C.1.1 C.1.2.1 d (kk H locs ls hP hS hl)
theorem v_imul (C : cx p s m args meth c cc nL Ts own D tys z0 A) {a b : Int32} (d : decode cc pc = .ok (.imul, 1)) (kk : vv pic A nL p l e R s m args below meth c Q x k n (pc + 1) lv (.int (a * b) :: st)) : vv pic A nL p l e R s m args below meth c Q x k n pc lv (.int b :: .int a :: st) := fun H locs ls hP hS hl => lv_imul C.1.1 C.1.2.1 d (kk H locs ls hP hS hl)
theorem v_iand (C : cx p s m args meth c cc nL Ts own D tys z0 A) {a b : Int32} (d : decode cc pc = .ok (.iand, 1)) (kk : vv pic A nL p l e R s m args below meth c Q x k n (pc + 1) lv (.int (a &&& b) :: st)) : vv pic A nL p l e R s m args below meth c Q x k n pc lv (.int b :: .int a :: st) := fun H locs ls hP hS hl => lv_iand C.1.1 C.1.2.1 d (kk H locs ls hP hS hl)
theorem v_ior (C : cx p s m args meth c cc nL Ts own D tys z0 A) {a b : Int32} (d : decode cc pc = .ok (.ior, 1)) (kk : vv pic A nL p l e R s m args below meth c Q x k n (pc + 1) lv (.int (a ||| b) :: st)) : vv pic A nL p l e R s m args below meth c Q x k n pc lv (.int b :: .int a :: st) := fun H locs ls hP hS hl => lv_ior C.1.1 C.1.2.1 d (kk H locs ls hP hS hl)
theorem v_ishl (C : cx p s m args meth c cc nL Ts own D tys z0 A) {a b : Int32} (d : decode cc pc = .ok (.ishl, 1)) (kk : vv pic A nL p l e R s m args below meth c Q x k n (pc + 1) lv (.int (a <<< (b &&& 31)) :: st)) : vv pic A nL p l e R s m args below meth c Q x k n pc lv (.int b :: .int a :: st) := fun H locs ls hP hS hl => lv_ishl C.1.1 C.1.2.1 d (kk H locs ls hP hS hl)
theorem v_ishr (C : cx p s m args meth c cc nL Ts own D tys z0 A) {a b : Int32} (d : decode cc pc = .ok (.ishr, 1)) (kk : vv pic A nL p l e R s m args below meth c Q x k n (pc + 1) lv (.int (a >>> (b &&& 31)) :: st)) : vv pic A nL p l e R s m args below meth c Q x k n pc lv (.int b :: .int a :: st) := fun H locs ls hP hS hl => lv_ishr C.1.1 C.1.2.1 d (kk H locs ls hP hS hl)
theorem v_ineg (C : cx p s m args meth c cc nL Ts own D tys z0 A) {a : Int32} (d : decode cc pc = .ok (.ineg, 1)) (kk : vv pic A nL p l e R s m args below meth c Q x k n (pc + 1) lv (.int (-a) :: st)) : vv pic A nL p l e R s m args below meth c Q x k n pc lv (.int a :: st) := fun H locs ls hP hS hl => lv_ineg C.1.1 C.1.2.1 d (kk H locs ls hP hS hl)
theorem v_irem (C : cx p s m args meth c cc nL Ts own D tys z0 A) {a b : Int32} (d : decode cc pc = .ok (.irem, 1)) (hne : ¬ b = 0) (kk : vv pic A nL p l e R s m args below meth c Q x k n (pc + 1) lv (.int (a - a / b * b) :: st)) : vv pic A nL p l e R s m args below meth c Q x k n pc lv (.int b :: .int a :: st) := fun H locs ls hP hS hl => lv_irem C.1.1 C.1.2.1 d hne (kk H locs ls hP hS hl)
theorem v_ladd (C : cx p s m args meth c cc nL Ts own D tys z0 A) {a b : Int64} (d : decode cc pc = .ok (.ladd, 1)) (kk : vv pic A nL p l e R s m args below meth c Q x k n (pc + 1) lv (.long (a + b) :: st)) : vv pic A nL p l e R s m args below meth c Q x k n pc lv (.long b :: .long a :: st) := fun H locs ls hP hS hl => lv_ladd C.1.1 C.1.2.1 d (kk H locs ls hP hS hl)
theorem v_lsub (C : cx p s m args meth c cc nL Ts own D tys z0 A) {a b : Int64} (d : decode cc pc = .ok (.lsub, 1)) (kk : vv pic A nL p l e R s m args below meth c Q x k n (pc + 1) lv (.long (a - b) :: st)) : vv pic A nL p l e R s m args below meth c Q x k n pc lv (.long b :: .long a :: st) := fun H locs ls hP hS hl => lv_lsub C.1.1 C.1.2.1 d (kk H locs ls hP hS hl)
theorem v_lmul (C : cx p s m args meth c cc nL Ts own D tys z0 A) {a b : Int64} (d : decode cc pc = .ok (.lmul, 1)) (kk : vv pic A nL p l e R s m args below meth c Q x k n (pc + 1) lv (.long (a * b) :: st)) : vv pic A nL p l e R s m args below meth c Q x k n pc lv (.long b :: .long a :: st) := fun H locs ls hP hS hl => lv_lmul C.1.1 C.1.2.1 d (kk H locs ls hP hS hl)
theorem v_ldiv (C : cx p s m args meth c cc nL Ts own D tys z0 A) {a b : Int64} (d : decode cc pc = .ok (.ldiv, 1)) (hne : ¬ b = 0) (kk : vv pic A nL p l e R s m args below meth c Q x k n (pc + 1) lv (.long (a / b) :: st)) : vv pic A nL p l e R s m args below meth c Q x k n pc lv (.long b :: .long a :: st) := fun H locs ls hP hS hl => lv_ldiv C.1.1 C.1.2.1 d hne (kk H locs ls hP hS hl)
theorem v_lrem (C : cx p s m args meth c cc nL Ts own D tys z0 A) {a b : Int64} (d : decode cc pc = .ok (.lrem, 1)) (hne : ¬ b = 0) (kk : vv pic A nL p l e R s m args below meth c Q x k n (pc + 1) lv (.long (a - a / b * b) :: st)) : vv pic A nL p l e R s m args below meth c Q x k n pc lv (.long b :: .long a :: st) := fun H locs ls hP hS hl => lv_lrem C.1.1 C.1.2.1 d hne (kk H locs ls hP hS hl)
theorem v_lneg (C : cx p s m args meth c cc nL Ts own D tys z0 A) {a : Int64} (d : decode cc pc = .ok (.lneg, 1)) (kk : vv pic A nL p l e R s m args below meth c Q x k n (pc + 1) lv (.long (-a) :: st)) : vv pic A nL p l e R s m args below meth c Q x k n pc lv (.long a :: st) := fun H locs ls hP hS hl => lv_lneg C.1.1 C.1.2.1 d (kk H locs ls hP hS hl)
theorem v_lcmp (C : cx p s m args meth c cc nL Ts own D tys z0 A) {a b : Int64} (d : decode cc pc = .ok (.lcmp, 1)) (kk : vv pic A nL p l e R s m args below meth c Q x k n (pc + 1) lv (.int (lg_cmp a b) :: st)) : vv pic A nL p l e R s m args below meth c Q x k n pc lv (.long b :: .long a :: st) := fun H locs ls hP hS hl => W.lcmp C.1.1 C.1.2.1 d (kk H locs ls hP hS hl)
theorem v_i2l (C : cx p s m args meth c cc nL Ts own D tys z0 A) {a : Int32} (d : decode cc pc = .ok (.i2l, 1)) (kk : vv pic A nL p l e R s m args below meth c Q x k n (pc + 1) lv (.long a.toInt64 :: st)) : vv pic A nL p l e R s m args below meth c Q x k n pc lv (.int a :: st) := fun H locs ls hP hS hl => lv_i2l C.1.1 C.1.2.1 d rfl (kk H locs ls hP hS hl)
theorem v_l2i (C : cx p s m args meth c cc nL Ts own D tys z0 A) {a : Int64} (d : decode cc pc = .ok (.l2i, 1)) (kk : vv pic A nL p l e R s m args below meth c Q x k n (pc + 1) lv (.int a.toInt32 :: st)) : vv pic A nL p l e R s m args below meth c Q x k n pc lv (.long a :: st) := fun H locs ls hP hS hl => lv_l2i C.1.1 C.1.2.1 d rfl (kk H locs ls hP hS hl)
theorem v_i2c (C : cx p s m args meth c cc nL Ts own D tys z0 A) {a : Int32} (d : decode cc pc = .ok (.i2c, 1)) (kk : vv pic A nL p l e R s m args below meth c Q x k n (pc + 1) lv (.int (a.toUInt32 % 65536).toInt32 :: st)) : vv pic A nL p l e R s m args below meth c Q x k n pc lv (.int a :: st) := fun H locs ls hP hS hl => lv_i2c C.1.1 C.1.2.1 d rfl (kk H locs ls hP hS hl)
theorem v_dup (C : cx p s m args meth c cc nL Ts own D tys z0 A) {v : Value} (d : decode cc pc = .ok (.dup, 1)) (h : v.category = 1) (kk : vv pic A nL p l e R s m args below meth c Q x k n (pc + 1) lv (v :: v :: st)) : vv pic A nL p l e R s m args below meth c Q x k n pc lv (v :: st) := fun H locs ls hP hS hl => lv_dup C.1.1 C.1.2.1 d h (kk H locs ls hP hS hl)
theorem v_dup_x1 (C : cx p s m args meth c cc nL Ts own D tys z0 A) {v w : Value} (d : decode cc pc = .ok (.dup_x1, 1)) (h : v.category = 1) (h' : w.category = 1) (kk : vv pic A nL p l e R s m args below meth c Q x k n (pc + 1) lv (v :: w :: v :: st)) : vv pic A nL p l e R s m args below meth c Q x k n pc lv (v :: w :: st) := fun H locs ls hP hS hl => lv_dup_x1 C.1.1 C.1.2.1 d h h' (kk H locs ls hP hS hl)
theorem v_dup2 (C : cx p s m args meth c cc nL Ts own D tys z0 A) {v w : Value} (d : decode cc pc = .ok (.dup2, 1)) (h : v.category = 1) (h' : w.category = 1) (kk : vv pic A nL p l e R s m args below meth c Q x k n (pc + 1) lv (v :: w :: v :: w :: st)) : vv pic A nL p l e R s m args below meth c Q x k n pc lv (v :: w :: st) := fun H locs ls hP hS hl => lv_dup2_11 C.1.1 C.1.2.1 d h h' (kk H locs ls hP hS hl)
theorem v_pop (C : cx p s m args meth c cc nL Ts own D tys z0 A) {v : Value} (d : decode cc pc = .ok (.pop, 1)) (h : v.category = 1) (kk : vv pic A nL p l e R s m args below meth c Q x k n (pc + 1) lv (st)) : vv pic A nL p l e R s m args below meth c Q x k n pc lv (v :: st) := fun H locs ls hP hS hl => lv_pop C.1.1 C.1.2.1 d h (kk H locs ls hP hS hl)
theorem v_goto (C : cx p s m args meth c cc nL Ts own D tys z0 A) {off : Int} (tgt : Nat) (d : decode cc pc = .ok (.goto off, 3)) (ht : (pc : Int) + off = (tgt : Int)) (kk : vv pic A nL p l e R s m args below meth c Q x k n tgt lv st) : vv pic A nL p l e R s m args below meth c Q x k n pc lv st := fun H locs ls hP hS hl => lv_goto C.1.1 C.1.2.1 d ht (kk H locs ls hP hS hl)
theorem v_icmp_eq (C : cx p s m args meth c cc nL Ts own D tys z0 A) {a b : Int32} {off : Int} (tgt : Nat) (d : decode cc pc = .ok (.if_icmp .eq off, 3)) (ht : (pc : Int) + off = (tgt : Int)) (kt : a = b → vv pic A nL p l e R s m args below meth c Q x k n tgt lv st) (kf : ¬ a = b → vv pic A nL p l e R s m args below meth c Q x k n (pc + 3) lv st) : vv pic A nL p l e R s m args below meth c Q x k n pc lv (.int b :: .int a :: st) := fun H locs ls hP hS hl => lv_icmp_eq C.1.1 C.1.2.1 d ht (fun h => kt h H locs ls hP hS hl) (fun h => kf h H locs ls hP hS hl)
theorem v_if_eq (C : cx p s m args meth c cc nL Ts own D tys z0 A) {a : Int32} {off : Int} (tgt : Nat) (d : decode cc pc = .ok (.ifCond .eq off, 3)) (ht : (pc : Int) + off = (tgt : Int)) (kt : a = 0 → vv pic A nL p l e R s m args below meth c Q x k n tgt lv st) (kf : ¬ a = 0 → vv pic A nL p l e R s m args below meth c Q x k n (pc + 3) lv st) : vv pic A nL p l e R s m args below meth c Q x k n pc lv (.int a :: st) := fun H locs ls hP hS hl => lv_if_eq C.1.1 C.1.2.1 d ht (fun h => kt h H locs ls hP hS hl) (fun h => kf h H locs ls hP hS hl)
theorem v_icmp_ne (C : cx p s m args meth c cc nL Ts own D tys z0 A) {a b : Int32} {off : Int} (tgt : Nat) (d : decode cc pc = .ok (.if_icmp .ne off, 3)) (ht : (pc : Int) + off = (tgt : Int)) (kt : ¬ a = b → vv pic A nL p l e R s m args below meth c Q x k n tgt lv st) (kf : a = b → vv pic A nL p l e R s m args below meth c Q x k n (pc + 3) lv st) : vv pic A nL p l e R s m args below meth c Q x k n pc lv (.int b :: .int a :: st) := fun H locs ls hP hS hl => lv_icmp_ne C.1.1 C.1.2.1 d ht (fun h => kt h H locs ls hP hS hl) (fun h => kf h H locs ls hP hS hl)
theorem v_if_ne (C : cx p s m args meth c cc nL Ts own D tys z0 A) {a : Int32} {off : Int} (tgt : Nat) (d : decode cc pc = .ok (.ifCond .ne off, 3)) (ht : (pc : Int) + off = (tgt : Int)) (kt : ¬ a = 0 → vv pic A nL p l e R s m args below meth c Q x k n tgt lv st) (kf : a = 0 → vv pic A nL p l e R s m args below meth c Q x k n (pc + 3) lv st) : vv pic A nL p l e R s m args below meth c Q x k n pc lv (.int a :: st) := fun H locs ls hP hS hl => lv_if_ne C.1.1 C.1.2.1 d ht (fun h => kt h H locs ls hP hS hl) (fun h => kf h H locs ls hP hS hl)
theorem v_icmp_lt (C : cx p s m args meth c cc nL Ts own D tys z0 A) {a b : Int32} {off : Int} (tgt : Nat) (d : decode cc pc = .ok (.if_icmp .lt off, 3)) (ht : (pc : Int) + off = (tgt : Int)) (kt : a < b → vv pic A nL p l e R s m args below meth c Q x k n tgt lv st) (kf : ¬ a < b → vv pic A nL p l e R s m args below meth c Q x k n (pc + 3) lv st) : vv pic A nL p l e R s m args below meth c Q x k n pc lv (.int b :: .int a :: st) := fun H locs ls hP hS hl => lv_icmp_lt C.1.1 C.1.2.1 d ht (fun h => kt h H locs ls hP hS hl) (fun h => kf h H locs ls hP hS hl)
theorem v_if_lt (C : cx p s m args meth c cc nL Ts own D tys z0 A) {a : Int32} {off : Int} (tgt : Nat) (d : decode cc pc = .ok (.ifCond .lt off, 3)) (ht : (pc : Int) + off = (tgt : Int)) (kt : a < 0 → vv pic A nL p l e R s m args below meth c Q x k n tgt lv st) (kf : ¬ a < 0 → vv pic A nL p l e R s m args below meth c Q x k n (pc + 3) lv st) : vv pic A nL p l e R s m args below meth c Q x k n pc lv (.int a :: st) := fun H locs ls hP hS hl => lv_if_lt C.1.1 C.1.2.1 d ht (fun h => kt h H locs ls hP hS hl) (fun h => kf h H locs ls hP hS hl)
theorem v_icmp_ge (C : cx p s m args meth c cc nL Ts own D tys z0 A) {a b : Int32} {off : Int} (tgt : Nat) (d : decode cc pc = .ok (.if_icmp .ge off, 3)) (ht : (pc : Int) + off = (tgt : Int)) (kt : b ≤ a → vv pic A nL p l e R s m args below meth c Q x k n tgt lv st) (kf : ¬ b ≤ a → vv pic A nL p l e R s m args below meth c Q x k n (pc + 3) lv st) : vv pic A nL p l e R s m args below meth c Q x k n pc lv (.int b :: .int a :: st) := fun H locs ls hP hS hl => lv_icmp_ge C.1.1 C.1.2.1 d ht (fun h => kt h H locs ls hP hS hl) (fun h => kf h H locs ls hP hS hl)
theorem v_if_ge (C : cx p s m args meth c cc nL Ts own D tys z0 A) {a : Int32} {off : Int} (tgt : Nat) (d : decode cc pc = .ok (.ifCond .ge off, 3)) (ht : (pc : Int) + off = (tgt : Int)) (kt : 0 ≤ a → vv pic A nL p l e R s m args below meth c Q x k n tgt lv st) (kf : ¬ 0 ≤ a → vv pic A nL p l e R s m args below meth c Q x k n (pc + 3) lv st) : vv pic A nL p l e R s m args below meth c Q x k n pc lv (.int a :: st) := fun H locs ls hP hS hl => lv_if_ge C.1.1 C.1.2.1 d ht (fun h => kt h H locs ls hP hS hl) (fun h => kf h H locs ls hP hS hl)
theorem v_icmp_gt (C : cx p s m args meth c cc nL Ts own D tys z0 A) {a b : Int32} {off : Int} (tgt : Nat) (d : decode cc pc = .ok (.if_icmp .gt off, 3)) (ht : (pc : Int) + off = (tgt : Int)) (kt : b < a → vv pic A nL p l e R s m args below meth c Q x k n tgt lv st) (kf : ¬ b < a → vv pic A nL p l e R s m args below meth c Q x k n (pc + 3) lv st) : vv pic A nL p l e R s m args below meth c Q x k n pc lv (.int b :: .int a :: st) := fun H locs ls hP hS hl => lv_icmp_gt C.1.1 C.1.2.1 d ht (fun h => kt h H locs ls hP hS hl) (fun h => kf h H locs ls hP hS hl)
theorem v_if_gt (C : cx p s m args meth c cc nL Ts own D tys z0 A) {a : Int32} {off : Int} (tgt : Nat) (d : decode cc pc = .ok (.ifCond .gt off, 3)) (ht : (pc : Int) + off = (tgt : Int)) (kt : 0 < a → vv pic A nL p l e R s m args below meth c Q x k n tgt lv st) (kf : ¬ 0 < a → vv pic A nL p l e R s m args below meth c Q x k n (pc + 3) lv st) : vv pic A nL p l e R s m args below meth c Q x k n pc lv (.int a :: st) := fun H locs ls hP hS hl => lv_if_gt C.1.1 C.1.2.1 d ht (fun h => kt h H locs ls hP hS hl) (fun h => kf h H locs ls hP hS hl)
theorem v_icmp_le (C : cx p s m args meth c cc nL Ts own D tys z0 A) {a b : Int32} {off : Int} (tgt : Nat) (d : decode cc pc = .ok (.if_icmp .le off, 3)) (ht : (pc : Int) + off = (tgt : Int)) (kt : a ≤ b → vv pic A nL p l e R s m args below meth c Q x k n tgt lv st) (kf : ¬ a ≤ b → vv pic A nL p l e R s m args below meth c Q x k n (pc + 3) lv st) : vv pic A nL p l e R s m args below meth c Q x k n pc lv (.int b :: .int a :: st) := fun H locs ls hP hS hl => lv_icmp_le C.1.1 C.1.2.1 d ht (fun h => kt h H locs ls hP hS hl) (fun h => kf h H locs ls hP hS hl)
theorem v_if_le (C : cx p s m args meth c cc nL Ts own D tys z0 A) {a : Int32} {off : Int} (tgt : Nat) (d : decode cc pc = .ok (.ifCond .le off, 3)) (ht : (pc : Int) + off = (tgt : Int)) (kt : a ≤ 0 → vv pic A nL p l e R s m args below meth c Q x k n tgt lv st) (kf : ¬ a ≤ 0 → vv pic A nL p l e R s m args below meth c Q x k n (pc + 3) lv st) : vv pic A nL p l e R s m args below meth c Q x k n pc lv (.int a :: st) := fun H locs ls hP hS hl => lv_if_le C.1.1 C.1.2.1 d ht (fun h => kt h H locs ls hP hS hl) (fun h => kf h H locs ls hP hS hl)
theorem v_acmp_eq (C : cx p s m args meth c cc nL Ts own D tys z0 A) {a b : Option Nat} {off : Int} (tgt : Nat) (d : decode cc pc = .ok (.if_acmp .eq off, 3)) (ht : (pc : Int) + off = (tgt : Int)) (kt : a = b → vv pic A nL p l e R s m args below meth c Q x k n tgt lv st) (kf : ¬ a = b → vv pic A nL p l e R s m args below meth c Q x k n (pc + 3) lv st) : vv pic A nL p l e R s m args below meth c Q x k n pc lv (va_rf b :: va_rf a :: st) := fun H locs ls hP hS hl => lv_acmp_eq C.1.1 C.1.2.1 d ht (fun h => kt h H locs ls hP hS hl) (fun h => kf h H locs ls hP hS hl)
theorem v_acmp_ne (C : cx p s m args meth c cc nL Ts own D tys z0 A) {a b : Option Nat} {off : Int} (tgt : Nat) (d : decode cc pc = .ok (.if_acmp .ne off, 3)) (ht : (pc : Int) + off = (tgt : Int)) (kt : ¬ a = b → vv pic A nL p l e R s m args below meth c Q x k n tgt lv st) (kf : a = b → vv pic A nL p l e R s m args below meth c Q x k n (pc + 3) lv st) : vv pic A nL p l e R s m args below meth c Q x k n pc lv (va_rf b :: va_rf a :: st) := fun H locs ls hP hS hl => lv_acmp_ne C.1.1 C.1.2.1 d ht (fun h => kt h H locs ls hP hS hl) (fun h => kf h H locs ls hP hS hl)
theorem v_tabIn (C : cx p s m args meth c cc nL Ts own D tys z0 A) {dflt lo hi : Int} {offs : Array Int} {len : Nat} {a : Int32} {off : Int} (tgt : Nat) (d : decode cc pc = .ok (.tableswitch dflt lo hi offs, len)) (h1 : ¬ a.toInt < lo) (h2 : ¬ hi < a.toInt) (ho : offs[(a.toInt - lo).toNat]? = some off) (ht : (pc : Int) + off = (tgt : Int)) (kk : vv pic A nL p l e R s m args below meth c Q x k n tgt lv st) : vv pic A nL p l e R s m args below meth c Q x k n pc lv (.int a :: st) := fun H locs ls hP hS hl => lv_tableIn C.1.1 C.1.2.1 d h1 h2 ho ht (kk H locs ls hP hS hl)
theorem v_tabOut (C : cx p s m args meth c cc nL Ts own D tys z0 A) {dflt lo hi : Int} {offs : Array Int} {len : Nat} {a : Int32} (tgt : Nat) (d : decode cc pc = .ok (.tableswitch dflt lo hi offs, len)) (h : a.toInt < lo ∨ hi < a.toInt) (ht : (pc : Int) + dflt = (tgt : Int)) (kk : vv pic A nL p l e R s m args below meth c Q x k n tgt lv st) : vv pic A nL p l e R s m args below meth c Q x k n pc lv (.int a :: st) := fun H locs ls hP hS hl => lv_tableOut C.1.1 C.1.2.1 d h ht (kk H locs ls hP hS hl)
theorem v_lookup (C : cx p s m args meth c cc nL Ts own D tys z0 A) {dflt : Int} {ps : Array (Int × Int)} {len : Nat} {a : Int32} {off : Int} (tgt : Nat) (d : decode cc pc = .ok (.lookupswitch dflt ps, len)) (hp : (ps.toList.zip (ps.toList.drop 1)).all (fun (a, next) => a.1 < next.1) = true) (ho : Op.lookupswitch.offset ps.toList dflt a.toInt = off) (ht : (pc : Int) + off = (tgt : Int)) (kk : vv pic A nL p l e R s m args below meth c Q x k n tgt lv st) : vv pic A nL p l e R s m args below meth c Q x k n pc lv (.int a :: st) := fun H locs ls hP hS hl => lv_lookup C.1.1 C.1.2.1 d hp ho ht (kk H locs ls hP hS hl)
theorem v_ldc (C : cx p s m args meth c cc nL Ts own D tys z0 A) {i : Nat} {v : Int32} (d : decode cc pc = .ok (.ldc i, 2)) (hc : Cond.constant own i v ∈ Ts) (kk : vv pic A nL p l e R s m args below meth c Q x k n (pc + 2) lv (.int v :: st)) : vv pic A nL p l e R s m args below meth c Q x k n pc lv st := fun H locs ls hP hS hl => lv_ldc C.1.1 C.1.2.1 C.1.2.2.2.1 (C.1.2.2.2.2 _ hc) d (kk H locs ls hP hS hl)
theorem v_ldc2 (C : cx p s m args meth c cc nL Ts own D tys z0 A) {i : Nat} {v : Int64} (d : decode cc pc = .ok (.ldc2_w i, 3)) (hc : Cond.constantLong own i v ∈ Ts) (kk : vv pic A nL p l e R s m args below meth c Q x k n (pc + 3) lv (.long v :: st)) : vv pic A nL p l e R s m args below meth c Q x k n pc lv st := fun H locs ls hP hS hl => lv_ldc2 C.1.1 C.1.2.1 C.1.2.2.2.1 (C.1.2.2.2.2 _ hc) d (kk H locs ls hP hS hl)
theorem v_get (C : cx p s m args meth c cc nL Ts own D tys z0 A) {ref Cn : String} {T : u_T} {N ci i a j : Nat} {v : Value} (d : decode cc pc = .ok (.getfield i, 3)) (hin : ∀ w ∈ u_ws Cn T N, w ∈ Ts) (hc : vwCl[ci]? = some (Cn, T, N)) (hj : j < N) (hlink : Cond.fieldLink own i ref (T j).2.1 (T j).2.2.1 ∈ Ts) (hsame : ∀ x, s.fieldFound? (T j).1 (T j).2.1 (T j).2.2.1 = some x → s.fieldFound? ref (T j).2.1 (T j).2.2.1 = some x) (g : gO D pic x ci a j v)
    (kk : vv pic A nL p l e R s m args below meth c Q x k n (pc + 3) lv (v :: st)) : vv pic A nL p l e R s m args below meth c Q x k n pc lv (.ref a :: st) := by
  intro H locs ls hP hS hl
  obtain ⟨fs, h1, h2⟩ := g H hP
  have hP1 : va_P D vwCl [(a, .inr (ci, fs))] H := fun i q hq => by
    cases i with
    | zero => cases hq; exact h1
    | succ i => simp at hq
  exact va_get C.1.1 C.1.2.1 C.1.2.2.2.2 hin C.1.2.2.2.1 C.2.1.1 hP1 0 rfl hc j hj (C.1.2.2.2.2 _ hlink) hsame h2 d (kk H locs ls hP hS hl)
theorem v_put (C : cx p s m args meth c cc nL Ts own D tys z0 A) {ref Cn : String} {T : u_T} {N ci i a j : Nat} {v : Value} {ty : FieldType} {x' : σ} (d : decode cc pc = .ok (.putfield i, 3)) (hin : ∀ w ∈ u_ws Cn T N, w ∈ Ts) (ty0 : Nat → FieldType) (hty : ∀ k, k < N → parseFieldDescriptor (T k).2.2.1 = some (ty0 k)) (hnm : ∀ a, a < N → ∀ b, b < N → a ≠ b → (T a).2.1 ≠ (T b).2.1) (hc : vwCl[ci]? = some (Cn, T, N)) (hj : j < N) (hlink : Cond.fieldLink own i ref (T j).2.1 (T j).2.2.1 ∈ Ts) (hsame : ∀ x, s.fieldFound? (T j).1 (T j).2.1 (T j).2.2.1 = some x → s.fieldFound? ref (T j).2.1 (T j).2.2.1 = some x)
    (hfin : (T j).2.2.2 = false) (hd : ty0 j = ty) (hn : narrow ty v = v) (hfit : fits ty v = true) (g : pO D pic A x ci a j v x')
    (kk : vv pic A nL p l e R s m args below meth c Q x' k n (pc + 3) lv st) : vv pic A nL p l e R s m args below meth c Q x k n pc lv (v :: .ref a :: st) := by
  intro H locs ls hP hS hl
  obtain ⟨hA, fs, h1, h2, h3⟩ := g H hP
  have hts := C.1.2.2.2.2
  have hK := C.2.1.1
  have hap := va_apart (own := own) hts hin ty0 hty hnm hK hc
  obtain ⟨r, e1, cell, q1, q2, q3, q4⟩ := h1
  have hr : r = (Cn, T, N) := Option.some.inj (e1.symm.trans hc)
  subst hr
  obtain ⟨hS9, hfc, kC, hkC, hkind⟩ := hK.1 ci _ hc
  obtain ⟨cf, kf, fi, f, hi, hsl⟩ := hS9 j hj
  have hlay := hts _ (hin _ (u_in_lay hj))
  unfold u_lay at hlay
  rw [if_neg (by rw [hfin]; decide)] at hlay
  have hst := (u_facts hfc hkC (u_lays hts hin hj) hi).1
  have h6 := u_store hfc hkC hkind hlay hi ((hty j hj).trans (by rw [hd])) hn hfit
  refine W.putK C.1.1 C.1.2.1 (f := f) ⟨C.1.2.2.2.1, hts _ hlink, ⟨_, _, _, hsame _ hi⟩, hst⟩ (by rw [q2]; exact h6) q1 q3 (by rw [hsl]; exact k2_hasslot (q4 j hj)) rfl rfl d fun H' e1 e2 e3 => ?_
  rw [hsl] at e1 ⊢
  exact kk H' _ ls (h3 H' ⟨_, hc, t_OB.to (V := updV (vp_V fs) j v) ⟨_, e1, q2, q3, t_set q4 hap hj v⟩ (fun i _ => vp_updV_set h2 v i)⟩ e2 e3) (hS.put e2 e3 hA) hl
theorem v_putF (C : cx p s m args meth c cc nL Ts own D tys z0 A) {ref Cn : String} {T : u_T} {N ci i a j : Nat} {v : Value} {ty : FieldType} {x' : σ} (d : decode cc pc = .ok (.putfield i, 3)) (hin : ∀ w ∈ u_ws Cn T N, w ∈ Ts) (ty0 : Nat → FieldType) (hty : ∀ k, k < N → parseFieldDescriptor (T k).2.2.1 = some (ty0 k)) (hnm : ∀ a, a < N → ∀ b, b < N → a ≠ b → (T a).2.1 ≠ (T b).2.1) (hc : vwCl[ci]? = some (Cn, T, N)) (hj : j < N) (hlink : Cond.fieldLink own i ref (T j).2.1 (T j).2.2.1 ∈ Ts) (hsame : ∀ x, s.fieldFound? (T j).1 (T j).2.1 (T j).2.2.1 = some x → s.fieldFound? ref (T j).2.1 (T j).2.2.1 = some x)
    (hfin : (T j).2.2.2 = true) (hin2 : meth.name = "<init>") (hdecl : (T j).1 = own) (hd : ty0 j = ty) (hn : narrow ty v = v) (hfit : fits ty v = true) (g : pO D pic A x ci a j v x')
    (kk : vv pic A nL p l e R s m args below meth c Q x' k n (pc + 3) lv st) : vv pic A nL p l e R s m args below meth c Q x k n pc lv (v :: .ref a :: st) := by
  intro H locs ls hP hS hl
  obtain ⟨hA, fs, h1, h2, h3⟩ := g H hP
  have hts := C.1.2.2.2.2
  have hown := C.1.2.2.2.1
  have hK := C.2.1.1
  have hap := va_apart (own := own) hts hin ty0 hty hnm hK hc
  obtain ⟨r, e1, cell, q1, q2, q3, q4⟩ := h1
  have hr : r = (Cn, T, N) := Option.some.inj (e1.symm.trans hc)
  subst hr
  obtain ⟨hS9, hfc, kC, hkC, hkind⟩ := hK.1 ci _ hc
  obtain ⟨cf, kf, fi, f, hi, hsl⟩ := hS9 j hj
  have hlay := hts _ (hin _ (u_in_lay hj))
  unfold u_lay at hlay
  rw [if_pos hfin] at hlay
  have hst := (u_facts hfc hkC (u_lays hts hin hj) hi).1
  have hcf : m.cls = cf := by
    obtain ⟨_, _, c', _, _, _, -, -, hf', -, -, -, hown2, -⟩ := Cond.laysFinal_spec hlay
    have e1 : c' = cf := by have := hi.symm.trans hf'; simp at this; exact this.1.symm
    rw [hdecl] at hown2
    rw [← e1]; exact Option.some.inj (hown.symm.trans hown2)
  have h6 := u_fits hfc hkC hkind (Or.inr hlay) hi ((hty j hj).trans (by rw [hd])) hn hfit
  refine W.putFinK C.1.1 C.1.2.1 hown (hts _ hlink) (hsame _ hi) hst hcf hin2 (by rw [q2]; exact h6) q1 q3 (by rw [hsl]; exact k2_hasslot (q4 j hj)) rfl rfl d fun H' e1 e2 e3 => ?_
  rw [hsl] at e1 ⊢
  exact kk H' _ ls (h3 H' ⟨_, hc, t_OB.to (V := updV (vp_V fs) j v) ⟨_, e1, q2, q3, t_set q4 hap hj v⟩ (fun i _ => vp_updV_set h2 v i)⟩ e2 e3) (hS.put e2 e3 hA) hl
theorem v_iald (C : cx p s m args meth c cc nL Ts own D tys z0 A) {cA : ClassId} {a N : Nat} {f : Nat → Int32} {i : Int32} (d : decode cc pc = .ok (.iaload, 1)) (t0 : Nat) (ht : tys[t0]? = some (cA, .int)) (g : gA pic x cA a (N, .inl f)) (hi : vp_in i N) (kk : vv pic A nL p l e R s m args below meth c Q x k n (pc + 1) lv (.int (f i.toNatClampNeg) :: st)) : vv pic A nL p l e R s m args below meth c Q x k n pc lv (.int i :: .ref a :: st) := fun H locs ls hP hS hl => va_iald C.1.1 C.1.2.1 C.2.1.1 (ws := [(a, .inl (cA, (N, .inl f)))]) (fun i q hq => by
    cases i with
    | zero => cases hq; exact g H hP
    | succ i => simp at hq) 0 t0 rfl ht hi d (kk H locs ls hP hS hl)
theorem v_cald (C : cx p s m args meth c cc nL Ts own D tys z0 A) {cA : ClassId} {a N : Nat} {f : Nat → Int32} {i : Int32} (d : decode cc pc = .ok (.caload, 1)) (t0 : Nat) (ht : tys[t0]? = some (cA, .char)) (g : gA pic x cA a (N, .inl f)) (hi : vp_in i N) (kk : vv pic A nL p l e R s m args below meth c Q x k n (pc + 1) lv (.int (f i.toNatClampNeg) :: st)) : vv pic A nL p l e R s m args below meth c Q x k n pc lv (.int i :: .ref a :: st) := fun H locs ls hP hS hl => va_cald C.1.1 C.1.2.1 C.2.1.1 (ws := [(a, .inl (cA, (N, .inl f)))]) (fun i q hq => by
    cases i with
    | zero => cases hq; exact g H hP
    | succ i => simp at hq) 0 t0 rfl ht hi d (kk H locs ls hP hS hl)
theorem v_zald (C : cx p s m args meth c cc nL Ts own D tys z0 A) {cA : ClassId} {a N : Nat} {f : Nat → Int32} {i : Int32} (d : decode cc pc = .ok (.baload, 1)) (t0 : Nat) (ht : tys[t0]? = some (cA, .boolean)) (g : gA pic x cA a (N, .inl f)) (hi : vp_in i N) (kk : vv pic A nL p l e R s m args below meth c Q x k n (pc + 1) lv (.int (f i.toNatClampNeg) :: st)) : vv pic A nL p l e R s m args below meth c Q x k n pc lv (.int i :: .ref a :: st) := fun H locs ls hP hS hl => va_zald C.1.1 C.1.2.1 C.2.1.1 (ws := [(a, .inl (cA, (N, .inl f)))]) (fun i q hq => by
    cases i with
    | zero => cases hq; exact g H hP
    | succ i => simp at hq) 0 t0 rfl ht hi d (kk H locs ls hP hS hl)
theorem v_lald (C : cx p s m args meth c cc nL Ts own D tys z0 A) {cA : ClassId} {a N : Nat} {f : Nat → Int64} {i : Int32} (d : decode cc pc = .ok (.laload, 1)) (t0 : Nat) (ht : tys[t0]? = some (cA, .long)) (g : gA pic x cA a (N, .inr (.inl f))) (hi : vp_in i N) (kk : vv pic A nL p l e R s m args below meth c Q x k n (pc + 1) lv (.long (f i.toNatClampNeg) :: st)) : vv pic A nL p l e R s m args below meth c Q x k n pc lv (.int i :: .ref a :: st) := fun H locs ls hP hS hl => va_lald C.1.1 C.1.2.1 C.2.1.1 (ws := [(a, .inl (cA, (N, .inr (.inl f))))]) (fun i q hq => by
    cases i with
    | zero => cases hq; exact g H hP
    | succ i => simp at hq) 0 t0 rfl ht hi d (kk H locs ls hP hS hl)
theorem v_aald (C : cx p s m args meth c cc nL Ts own D tys z0 A) {cA : ClassId} {Cn : String} {a N : Nat} {f : Nat → Option Nat} {i : Int32} {w : Option Nat} (d : decode cc pc = .ok (.aaload, 1)) (t0 : Nat) (ht : tys[t0]? = some (cA, .object Cn)) (g : gA pic x cA a (N, .inr (.inr (.inr (.inr f))))) (hi : vp_in i N) (hw : f i.toNatClampNeg = w) (kk : vv pic A nL p l e R s m args below meth c Q x k n (pc + 1) lv (va_rf w :: st)) : vv pic A nL p l e R s m args below meth c Q x k n pc lv (.int i :: .ref a :: st) := by
  subst hw
  exact fun H locs ls hP hS hl => va_aldq C.1.1 C.1.2.1 C.2.1.1 (ws := [(a, .inl (cA, (N, .inr (.inr (.inr (.inr f))))))]) (fun i q hq => by
    cases i with
    | zero => cases hq; exact g H hP
    | succ i => simp at hq) 0 t0 rfl ht hi d (kk H locs ls hP hS hl)
theorem v_alen (C : cx p s m args meth c cc nL Ts own D tys z0 A) {cA : ClassId} {ty : FieldType} {a N : Nat} {y : vp_A} {v : Int32} (d : decode cc pc = .ok (.arraylength, 1)) (t0 : Nat) (ht : tys[t0]? = some (cA, ty)) (g : gA pic x cA a y) (hv : Int32.ofNat y.1 = v) (kk : vv pic A nL p l e R s m args below meth c Q x k n (pc + 1) lv (.int v :: st)) : vv pic A nL p l e R s m args below meth c Q x k n pc lv (.ref a :: st) := fun H locs ls hP hS hl => va_alen C.1.1 C.1.2.1 C.2.1.1 (ws := [(a, .inl (cA, y))]) (fun i q hq => by
    cases i with
    | zero => cases hq; exact g H hP
    | succ i => simp at hq) 0 t0 rfl ht hv d (kk H locs ls hP hS hl)
theorem v_iast (C : cx p s m args meth c cc nL Ts own D tys z0 A) {cA : ClassId} {a N : Nat} {f : Nat → Int32} {i v : Int32} {x' : σ} (d : decode cc pc = .ok (.iastore, 1)) (t0 : Nat) (ht : tys[t0]? = some (cA, .int)) (hi : vp_in i N) (g : pA pic A x cA a (N, .inl f) (N, .inl (upd f i.toNatClampNeg v)) x') (kk : vv pic A nL p l e R s m args below meth c Q x' k n (pc + 1) lv st) : vv pic A nL p l e R s m args below meth c Q x k n pc lv (.int v :: .int i :: .ref a :: st) := by
  intro H locs ls hP hS hl
  obtain ⟨hA, h1, h3⟩ := g H hP
  refine W.iast C.1.1 C.1.2.1 h1 ((C.2.1.1.2 t0 _ ht).1 N (fun j => .int (f j))) (fun q => by cases q) (by show ¬ (i < 0 ∨ (arrV _ _ _).slots.size ≤ _); rw [arrV_size]; exact hi) rfl rfl d fun H1 e z oq => ?_
  refine kk H1 _ ls (h3 H1 ?_ z oq) (hS.put z oq hA) hl
  rw [e]
  rw [vp_cell_i, vp_cell_i, arrV_store]
  congr 2
  funext q
  by_cases hq : q = i.toNatClampNeg
  · subst hq
    simp [updV, upd, vp_nar]
    try rfl
  · simp [updV, upd, hq]
theorem v_cast (C : cx p s m args meth c cc nL Ts own D tys z0 A) {cA : ClassId} {a N : Nat} {f : Nat → Int32} {i v : Int32} {x' : σ} (d : decode cc pc = .ok (.castore, 1)) (t0 : Nat) (ht : tys[t0]? = some (cA, .char)) (hi : vp_in i N) (g : pA pic A x cA a (N, .inl f) (N, .inl (upd f i.toNatClampNeg (vp_nar .char v))) x') (kk : vv pic A nL p l e R s m args below meth c Q x' k n (pc + 1) lv st) : vv pic A nL p l e R s m args below meth c Q x k n pc lv (.int v :: .int i :: .ref a :: st) := by
  intro H locs ls hP hS hl
  obtain ⟨hA, h1, h3⟩ := g H hP
  refine W.cast C.1.1 C.1.2.1 h1 ((C.2.1.1.2 t0 _ ht).1 N (fun j => .int (f j))) (fun q => by cases q) (by show ¬ (i < 0 ∨ (arrV _ _ _).slots.size ≤ _); rw [arrV_size]; exact hi) rfl rfl d fun H1 e z oq => ?_
  refine kk H1 _ ls (h3 H1 ?_ z oq) (hS.put z oq hA) hl
  rw [e]
  rw [vp_cell_i, vp_cell_i, arrV_store]
  congr 2
  funext q
  by_cases hq : q = i.toNatClampNeg
  · subst hq
    simp [updV, upd, vp_nar]
    try rfl
  · simp [updV, upd, hq]
theorem v_zast (C : cx p s m args meth c cc nL Ts own D tys z0 A) {cA : ClassId} {a N : Nat} {f : Nat → Int32} {i v : Int32} {x' : σ} (d : decode cc pc = .ok (.bastore, 1)) (t0 : Nat) (ht : tys[t0]? = some (cA, .boolean)) (hi : vp_in i N) (g : pA pic A x cA a (N, .inl f) (N, .inl (upd f i.toNatClampNeg (vp_nar .boolean v))) x') (kk : vv pic A nL p l e R s m args below meth c Q x' k n (pc + 1) lv st) : vv pic A nL p l e R s m args below meth c Q x k n pc lv (.int v :: .int i :: .ref a :: st) := by
  intro H locs ls hP hS hl
  obtain ⟨hA, h1, h3⟩ := g H hP
  refine W.zast C.1.1 C.1.2.1 h1 ((C.2.1.1.2 t0 _ ht).1 N (fun j => .int (f j))) (fun q => by cases q) (by show ¬ (i < 0 ∨ (arrV _ _ _).slots.size ≤ _); rw [arrV_size]; exact hi) rfl rfl d fun H1 e z oq => ?_
  refine kk H1 _ ls (h3 H1 ?_ z oq) (hS.put z oq hA) hl
  rw [e]
  rw [vp_cell_i, vp_cell_i, arrV_store]
  congr 2
  funext q
  by_cases hq : q = i.toNatClampNeg
  · subst hq
    simp [updV, upd, vp_nar]
    try rfl
  · simp [updV, upd, hq]
theorem v_last (C : cx p s m args meth c cc nL Ts own D tys z0 A) {cA : ClassId} {a N : Nat} {f : Nat → Int64} {i : Int32} {v : Int64} {x' : σ} (d : decode cc pc = .ok (.lastore, 1)) (t0 : Nat) (ht : tys[t0]? = some (cA, .long)) (hi : vp_in i N) (g : pA pic A x cA a (N, .inr (.inl f)) (N, .inr (.inl (vp_updL f i.toNatClampNeg v))) x') (kk : vv pic A nL p l e R s m args below meth c Q x' k n (pc + 1) lv st) : vv pic A nL p l e R s m args below meth c Q x k n pc lv (.long v :: .int i :: .ref a :: st) := by
  intro H locs ls hP hS hl
  obtain ⟨hA, h1, h3⟩ := g H hP
  refine W.last C.1.1 C.1.2.1 h1 ((C.2.1.1.2 t0 _ ht).1 N (fun j => .long (f j))) (fun q => by cases q) (by show ¬ (i < 0 ∨ (arrV _ _ _).slots.size ≤ _); rw [arrV_size]; exact hi) rfl rfl d fun H1 e z oq => ?_
  refine kk H1 _ ls (h3 H1 ?_ z oq) (hS.put z oq hA) hl
  rw [e]
  rw [vp_cell_l, vp_cell_l, arrV_store]
  congr 2
  funext q
  by_cases hq : q = i.toNatClampNeg
  · subst hq
    simp [updV, vp_updL]
  · simp [updV, vp_updL, hq]
end VV
end
section
/-! ===== contracts, calls, returns over vv ===== -/
/-- a contract: from the picture x, by the list av of arguments -/
def ct {σ : Type} (D : va_G) (tys : List (ClassId × FieldType)) (z0 : Nat) (A : Nat → Prop) (pic : σ → Heap → Prop) (l : Launch) (y : MethodName) (ws : List Cond) (rm : Room) (av : List Value) (x : σ) (Qc : Array Value → State → Outcome → State → Prop) : Prop :=
  Met l y ws rm (va_Pc av (fun U => pic x U.heap ∧ kw D tys z0 A U)) Qc rm.cells rm.slots A
/-- ends: what is answered, and the picture then -/
def qI {σ : Type} (pic : σ → Heap → Prop) (A : Nat → Prop) (post : Int32 → σ → Prop) := va_Qi post (fun x' U => pic x' U.heap) A
def qL {σ : Type} (pic : σ → Heap → Prop) (A : Nat → Prop) (post : Int64 → σ → Prop) := va_Ql post (fun x' U => pic x' U.heap) A
def qV {σ : Type} (pic : σ → Heap → Prop) (A : Nat → Prop) (post : σ → Prop) := va_Qv post (fun x' U => pic x' U.heap) A
def qR {σ : Type} (pic : σ → Heap → Prop) (A : Nat → Prop) (post : Nat → σ → Prop) := va_Qr (S := Nat × σ) (fun u => post u.1 u.2) (fun u q U => u.1 = q ∧ pic u.2 U.heap) A
/-- the exceptional end: the class, and the picture then -/
def xX {σ : Type} (pic : σ → Heap → Prop) (A : Nat → Prop) (px : String → σ → Prop) : String → State → State → Prop := vx_X (S := σ) (fun _ => True) (fun E x' U => px E x' ∧ pic x' U.heap) A
def cX {σ : Type} (D : va_G) (tys : List (ClassId × FieldType)) (z0 : Nat) (A : Nat → Prop) (pic : σ → Heap → Prop) (l : Launch) (y : MethodName) (ws : List Cond) (rm : Room) (av : List Value) (x : σ) (Qc : Array Value → State → Outcome → State → Prop) (px : String → σ → Prop) : Prop :=
  vx_Met l y ws rm (va_Pc av (fun U => pic x U.heap ∧ kw D tys z0 A U)) Qc (xX pic A px) rm.cells rm.slots A
theorem ct_blind {σ : Type} {D : va_G} {tys : List (ClassId × FieldType)} {z0 : Nat} {A : Nat → Prop} {pic : σ → Heap → Prop} {av : List Value} {x : σ} : FrameBlind (va_Pc av (fun U => pic x U.heap ∧ kw D tys z0 A U)) :=
  fun _ U _ _ q => ⟨q.1, q.2.1, kw.step q.2.2 (va_S.rf (H0 := U.heap)) rfl (Vm.Alike.refl U.vm)⟩
/-- ghosts: a contract for every choice of them -/
theorem ct_ex {G σ τ : Type} {D : va_G} {tys : List (ClassId × FieldType)} {z0 : Nat} {A : Nat → Prop} {pic : σ → Heap → Prop} {pic' : τ → Heap → Prop} {l : Launch} {y : MethodName} {ws : List Cond} {rm : Room} {av : List Value} {x' : τ} {Qc' : Array Value → State → Outcome → State → Prop} (ok : G → Prop) (x : G → σ) (Qc : G → Array Value → State → Outcome → State → Prop)
    (h : ∀ i, ok i → ct D tys z0 A pic l y ws rm av (x i) (Qc i)) (hp : ∀ H, pic' x' H → ∃ i, ok i ∧ pic (x i) H) (hq : ∀ i a s o t, ok i → Qc i a s o t → Qc' a s o t) : ct D tys z0 A pic' l y ws rm av x' Qc' := by
  have h2 := MetFree.ex (l := l) (x := y) (S := headSpec ws rm) (K := fun _ _ _ _ _ => True) (P := fun i : {i : G // ok i} => va_Pc av (fun U => pic (x i.1) U.heap ∧ kw D tys z0 A U)) (Q := fun i a st o t => Qc i.1 a st o t ∧ ∃ L, FrameEnd st o t L rm.cells rm.slots ∧ ∀ q ∈ L, A q.base) (fun i => h i.1 i.2)
  show MetFree l y (headSpec ws rm) (va_Pc av (fun U => pic' x' U.heap ∧ kw D tys z0 A U)) (fun _ _ _ _ _ => True) (fun a st o t => Qc' a st o t ∧ ∃ L, FrameEnd st o t L rm.cells rm.slots ∧ ∀ q ∈ L, A q.base)
  refine MetFree.mono h2 (fun a s hP => ?_) (fun _ _ _ _ _ _ => trivial) (fun a s o t _ hQ => ?_)
  · obtain ⟨h3, h4, h5⟩ := hP
    obtain ⟨i, h6, h7⟩ := hp _ h4
    exact ⟨⟨i, h6⟩, h3, h7, h5⟩
  · obtain ⟨i, -, h3, h4⟩ := hQ
    exact ⟨hq i.1 a s o t i.2 h3, h4⟩
section VC
variable {p : Program} {l : Launch} {e : Env} {R : Room} {s : State} {m : MethodId} {args : Array Value} {below : List Frame} {meth : Method} {c : Code} {Q : State → Prop}
variable {σ : Type} {pic : σ → Heap → Prop} {A : Nat → Prop} {D : va_G} {tys : List (ClassId × FieldType)} {z0 : Nat} {cc : ByteArray} {nL : Nat} {Ts : List Cond} {own : String}
variable {x : σ} {k n pc : Nat} {lv : List (Nat × Value)} {st : List Value}
/-- from a body to a contract -/
theorem ct_of {y : MethodName} {ws ws' : List Cond} {rm : Room} {maxL : Nat} {ret : Option FieldType} {av : List Value} {Qc : Array Value → State → Outcome → State → Prop} (own : String) (hy : plainName y.cls = true) (hcl : y.cls = own) (hw : ws = Cond.code y cc maxL ret :: ws') (hn : (lg_sl av).length ≤ maxL)
    (body : ∀ p e s m below meth c, cx p s m av.toArray meth c cc maxL ws own D tys z0 A → meth.sig.returnType = ret → meth.name = y.name → vv pic A maxL p l e rm s m av.toArray below meth c (MQ below Qc av.toArray s rm.cells rm.slots A) x 0 0 0 (lv_args 0 av) []) : ct D tys z0 A pic l y ws rm av x Qc := by
  refine Met.ofW (cc := cc) (maxL := maxL) (ret := ret) hy hw ?_
  intro p e s m args below meth c s₁ B hml hv
  obtain ⟨rfl, hP, hK⟩ := hv
  have hts := atoms_spec (ws := ws) B.pre
  have hown : s.vm.findClass own = some m.cls := by rw [← hcl]; exact findClass_of_methodNamed B.named
  rw [lg_entry_eq]
  exact body p e s m below meth c ⟨⟨B.exec, B.bytes, hml, hown, hts⟩, hK, B.notSynchronized⟩ B.returns (name_of_methodNamed B.named B.method).1 s.heap [] _ hP va_S.rf (lv_entry av hn)
theorem cX_of {y : MethodName} {ws ws' : List Cond} {rm : Room} {maxL : Nat} {ret : Option FieldType} {av : List Value} {Qc : Array Value → State → Outcome → State → Prop} {px : String → σ → Prop} (own : String) (hy : plainName y.cls = true) (hcl : y.cls = own) (hw : ws = Cond.code y cc maxL ret :: ws') (hn : (lg_sl av).length ≤ maxL)
    (body : ∀ p e s m below meth c, cx p s m av.toArray meth c cc maxL ws own D tys z0 A → meth.sig.returnType = ret → (∀ z ∈ c.exceptionTable.toList, False) → vv pic A maxL p l e rm s m av.toArray below meth c (vx_MQ below Qc (xX pic A px) av.toArray s rm.cells rm.slots A) x 0 0 0 (lv_args 0 av) []) : cX D tys z0 A pic l y ws rm av x Qc px := by
  refine vx_ofW (cc := cc) (maxL := maxL) (ret := ret) hy hw ?_
  intro p e s m args below meth c s₁ B hml hex hv
  obtain ⟨rfl, hP, hK⟩ := hv
  have hts := atoms_spec (ws := ws) B.pre
  have hown : s.vm.findClass own = some m.cls := by rw [← hcl]; exact findClass_of_methodNamed B.named
  rw [lg_entry_eq]
  exact body p e s m below meth c ⟨⟨B.exec, B.bytes, hml, hown, hts⟩, hK, B.notSynchronized⟩ B.returns hex s.heap [] _ hP va_S.rf (lv_entry av hn)
/-- a call that returns -/
def vr {σ : Type} (pic : σ → Heap → Prop) (A : Nat → Prop) (nL : Nat) (p : Program) (l : Launch) (e : Env) (R : Room) (s : State) (m : MethodId) (args : Array Value) (below : List Frame) (meth : Method) (c : Code) (x : σ) (k n pc : Nat) (lv : List (Nat × Value)) (st0 rest : List Value) (mc ms : Nat) (Qa : State → Outcome → State → Prop) : Prop :=
  ∀ (H : Heap) (locs : List Loc) (ls : Array Slot), pic x H → va_S A s.heap H locs → lv_has ls nL lv → va_Run p l e R s m args below meth c H locs k n mc ms (F0 m pc ls st0) rest Qa A
/-- a call that returns or throws -/
def vrX {σ : Type} (pic : σ → Heap → Prop) (A : Nat → Prop) (nL : Nat) (p : Program) (l : Launch) (e : Env) (R : Room) (s : State) (m : MethodId) (args : Array Value) (below : List Frame) (meth : Method) (c : Code) (x : σ) (k n pc : Nat) (lv : List (Nat × Value)) (st0 rest : List Value) (mc ms : Nat) (Qa : State → Outcome → State → Prop) (XC : String → State → State → Prop) : Prop :=
  ∀ (H : Heap) (locs : List Loc) (ls : Array Slot), pic x H → va_S A s.heap H locs → lv_has ls nL lv → vx_Run p l e R s m args below meth c H locs k n mc ms (F0 m pc ls st0) rest Qa XC A
/-- with q of class E thrown at pc -/
def vt {σ : Type} (pic : σ → Heap → Prop) (A : Nat → Prop) (nL : Nat) (p : Program) (l : Launch) (e : Env) (R : Room) (s : State) (m : MethodId) (args : Array Value) (below : List Frame) (meth : Method) (c : Code) (Q : State → Prop) (x : σ) (k n pc : Nat) (lv : List (Nat × Value)) (rest : List Value) (E : String) : Prop :=
  ∀ (H : Heap) (locs : List Loc) (ls : Array Slot) (q : Addr) (ce : Cell), pic x H → va_S A s.heap H locs → lv_has ls nL lv → H[q]? = some ce → ce.vm = .none → s.vm.findClass E = some ce.cls → vx_W p l e R s m args below meth c H locs k n Q (F0 m pc ls rest) q
/-- an object is there, of kind ci -/
def gC {σ : Type} (D : va_G) (pic : σ → Heap → Prop) (x : σ) (ci a : Nat) : Prop := ∀ H, pic x H → ∃ fs, va_at D vwCl (a, .inr (ci, fs)) H
theorem gO.gC {ci a j : Nat} {v : Value} (h : gO D pic x ci a j v) : gC D pic x ci a := fun H hP => by
  obtain ⟨fs, h1, -⟩ := h H hP
  exact ⟨fs, h1⟩
theorem v_recv (C : cx p s m args meth c cc nL Ts own D tys z0 A) {Cn : String} {T : u_T} {N ci b : Nat} {H : Heap} (hc : vwCl[ci]? = some (Cn, T, N)) (hr : gC D pic x ci b) (hP : pic x H) : ∃ cellB : Cell, H[b]? = some cellB ∧ cellB.vm.isStatics = false ∧ s.vm.findClass Cn = some cellB.cls := by
  obtain ⟨fs, r, h1, cell, g1, g2, g3, -⟩ := hr H hP
  cases h1.symm.trans hc
  exact ⟨cell, g1, by rw [g3]; rfl, by rw [g2]; exact (C.2.1.1.1 ci _ hc).2.1⟩
section RUNS
variable {y : MethodName} {bytes : ByteArray} {maxL i nA : Nat} {ret : Option FieldType} {ws : List Cond} {rm : Room} {Cn : String} {As rest : List Value} {b : Nat} {Qc : Array Value → State → Outcome → State → Prop} {px : String → σ → Prop}
theorem v_runV (C : cx p s m args meth c cc nL Ts own D tys z0 A) {T : u_T} {N ci : Nat} (hM : ct D tys z0 A pic l y ws rm (.ref b :: As) x Qc) (cw : CallW R s args own Cn i y bytes maxL ret ws rm rm.cells rm.slots nA) (hn : As.length = nA) (hc : vwCl[ci]? = some (Cn, T, N)) (hr : gC D pic x ci b) (d : decode cc pc = .ok (.invokevirtual i, 3)) (h8 : (rest.map fun v => v.category).sum ≤ 8) (hst : st = As.reverse ++ .ref b :: rest) (hf : k + rm.cells ≤ R.cells ∧ n + rm.slots ≤ R.slots) :
    vr pic A nL p l e R s m args below meth c x k n pc lv st rest rm.cells rm.slots (Qc (Value.ref b :: As).toArray) := by
  subst hst
  exact fun H locs ls hP hS hl => va_runV C.1 hM cw ⟨ct_blind, v_recv C hc hr hP, fun U hU hW => ⟨rfl, by rw [hU]; exact hP, C.2.1.step hS hU hW.alike⟩⟩ rfl hn hl.1 rfl (lv_room h8) d hf
theorem v_runS (C : cx p s m args meth c cc nL Ts own D tys z0 A) (hM : ct D tys z0 A pic l y ws rm As x Qc) (cw : CallB R s args own i y bytes maxL ret ws rm rm.cells rm.slots nA ∧ (Cond.static y).before args s = true) (hn : As.length = nA) (d : decode cc pc = .ok (.invokestatic i, 3)) (h8 : (rest.map fun v => v.category).sum ≤ 8) (hst : st = As.reverse ++ rest) (hf : k + rm.cells ≤ R.cells ∧ n + rm.slots ≤ R.slots) :
    vr pic A nL p l e R s m args below meth c x k n pc lv st rest rm.cells rm.slots (Qc As.toArray) := by
  subst hst
  exact fun H locs ls hP hS hl => va_runS C.1 hM cw ⟨ct_blind, fun U hU hW => ⟨rfl, by rw [hU]; exact hP, C.2.1.step hS hU hW.alike⟩⟩ rfl hn hl.1 rfl (lv_room h8) d hf
theorem v_runI (C : cx p s m args meth c cc nL Ts own D tys z0 A) (hM : ct D tys z0 A pic l y ws rm (.ref b :: As) x Qc) (cw : CallB R s args own i y bytes maxL none ws rm rm.cells rm.slots nA ∧ y.name = "<init>" ∧ (Cond.instanceMethod y).before args s = true) (hn : As.length = nA) (d : decode cc pc = .ok (.invokespecial i, 3)) (h8 : (rest.map fun v => v.category).sum ≤ 8) (hst : st = As.reverse ++ .ref b :: rest) (hf : k + rm.cells ≤ R.cells ∧ n + rm.slots ≤ R.slots) :
    vr pic A nL p l e R s m args below meth c x k n pc lv st rest rm.cells rm.slots (Qc (Value.ref b :: As).toArray) := by
  subst hst
  exact fun H locs ls hP hS hl => va_runI C.1 hM cw ⟨ct_blind, fun U hU hW => ⟨rfl, by rw [hU]; exact hP, C.2.1.step hS hU hW.alike⟩⟩ rfl hn hl.1 rfl (lv_room h8) d hf
theorem x_runV (C : cx p s m args meth c cc nL Ts own D tys z0 A) {T : u_T} {N ci : Nat} (hM : cX D tys z0 A pic l y ws rm (.ref b :: As) x Qc px) (cw : CallW R s args own Cn i y bytes maxL ret ws rm rm.cells rm.slots nA) (hn : As.length = nA) (hc : vwCl[ci]? = some (Cn, T, N)) (hr : gC D pic x ci b) (d : decode cc pc = .ok (.invokevirtual i, 3)) (h8 : (rest.map fun v => v.category).sum ≤ 8) (hst : st = As.reverse ++ .ref b :: rest) (hf : k + rm.cells ≤ R.cells ∧ n + rm.slots ≤ R.slots) :
    vrX pic A nL p l e R s m args below meth c x k n pc lv st rest rm.cells rm.slots (Qc (Value.ref b :: As).toArray) (xX pic A px) := by
  subst hst
  exact fun H locs ls hP hS hl => vx_runV C.1 hM cw ⟨ct_blind, v_recv C hc hr hP, fun U hU hW => ⟨rfl, by rw [hU]; exact hP, C.2.1.step hS hU hW.alike⟩⟩ rfl hn hl.1 rfl (lv_room h8) d hf
theorem x_runS (C : cx p s m args meth c cc nL Ts own D tys z0 A) (hM : cX D tys z0 A pic l y ws rm As x Qc px) (cw : CallB R s args own i y bytes maxL ret ws rm rm.cells rm.slots nA ∧ (Cond.static y).before args s = true) (hn : As.length = nA) (d : decode cc pc = .ok (.invokestatic i, 3)) (h8 : (rest.map fun v => v.category).sum ≤ 8) (hst : st = As.reverse ++ rest) (hf : k + rm.cells ≤ R.cells ∧ n + rm.slots ≤ R.slots) :
    vrX pic A nL p l e R s m args below meth c x k n pc lv st rest rm.cells rm.slots (Qc As.toArray) (xX pic A px) := by
  subst hst
  exact fun H locs ls hP hS hl => vx_runS C.1 hM cw ⟨ct_blind, fun U hU hW => ⟨rfl, by rw [hU]; exact hP, C.2.1.step hS hU hW.alike⟩⟩ rfl hn hl.1 rfl (lv_room h8) d hf
end RUNS
section AFTER
variable {st0 rest : List Value} {mc ms : Nat} {a : Array Value} {px : String → σ → Prop}
theorem v_ci {post : Int32 → σ → Prop} (hr : vr pic A nL p l e R s m args below meth c x k n pc lv st0 rest mc ms (qI pic A post a)) (kk : ∀ r x', post r x' → vv pic A nL p l e R s m args below meth c Q x' (k + mc) (n + ms) (pc + 3) lv (.int r :: rest)) : vv pic A nL p l e R s m args below meth c Q x k n pc lv st0 :=
  fun H locs ls hP hS hl => va_calli (hr H locs ls hP hS hl) hS (fun _ _ h => h) (fun _ h => h) (fun r u _ H1 locs1 ht _ hp hB _ _ hS1 => kk r u hp H1 locs1 ls (by rw [← ht]; exact hB) hS1 hl)
theorem v_cl {post : Int64 → σ → Prop} (hr : vr pic A nL p l e R s m args below meth c x k n pc lv st0 rest mc ms (qL pic A post a)) (kk : ∀ r x', post r x' → vv pic A nL p l e R s m args below meth c Q x' (k + mc) (n + ms) (pc + 3) lv (.long r :: rest)) : vv pic A nL p l e R s m args below meth c Q x k n pc lv st0 :=
  fun H locs ls hP hS hl => va_calll (hr H locs ls hP hS hl) hS (fun _ _ h => h) (fun _ h => h) (fun r u _ H1 locs1 ht _ hp hB _ _ hS1 => kk r u hp H1 locs1 ls (by rw [← ht]; exact hB) hS1 hl)
theorem v_cv {post : σ → Prop} (hr : vr pic A nL p l e R s m args below meth c x k n pc lv st0 rest mc ms (qV pic A post a)) (kk : ∀ x', post x' → vv pic A nL p l e R s m args below meth c Q x' (k + mc) (n + ms) (pc + 3) lv rest) : vv pic A nL p l e R s m args below meth c Q x k n pc lv st0 :=
  fun H locs ls hP hS hl => va_callv (hr H locs ls hP hS hl) hS (fun _ _ h => h) (fun _ h => h) (fun u _ H1 locs1 ht _ hp hB _ _ hS1 => kk u hp H1 locs1 ls (by rw [← ht]; exact hB) hS1 hl)
theorem v_cr {post : Nat → σ → Prop} (hr : vr pic A nL p l e R s m args below meth c x k n pc lv st0 rest mc ms (qR pic A post a)) (kk : ∀ r x', post r x' → vv pic A nL p l e R s m args below meth c Q x' (k + mc) (n + ms) (pc + 3) lv (.ref r :: rest)) : vv pic A nL p l e R s m args below meth c Q x k n pc lv st0 :=
  fun H locs ls hP hS hl => va_callr (hr H locs ls hP hS hl) hS (fun _ _ h => h) (fun _ h => h) (fun u ra _ H1 locs1 ht _ hp hB _ _ hS1 => by
    obtain ⟨h1, h2⟩ := hB
    subst h1
    exact kk u.1 u.2 hp H1 locs1 ls (by rw [← ht]; exact h2) hS1 hl)
theorem x_ci {post : Int32 → σ → Prop} (hr : vrX pic A nL p l e R s m args below meth c x k n pc lv st0 rest mc ms (qI pic A post a) (xX pic A px)) (kx : ∀ E x', px E x' → vt pic A nL p l e R s m args below meth c Q x' (k + mc) (n + ms) pc lv rest E) (kk : ∀ r x', post r x' → vv pic A nL p l e R s m args below meth c Q x' (k + mc) (n + ms) (pc + 3) lv (.int r :: rest)) : vv pic A nL p l e R s m args below meth c Q x k n pc lv st0 :=
  fun H locs ls hP hS hl => vx_calli (hr H locs ls hP hS hl) hS (fun _ _ h => h) (fun _ h => h) (fun _ _ h => h)
    (fun E ce q9 u _ H1 locs1 ht _ _ hB _ _ hS1 hq hv hcl => kx E u hB.1 H1 locs1 ls q9 ce (by rw [← ht]; exact hB.2) hS1 hl hq hv hcl)
    (fun r u _ H1 locs1 ht _ hp hB _ _ hS1 => kk r u hp H1 locs1 ls (by rw [← ht]; exact hB) hS1 hl)
theorem x_cv {post : σ → Prop} (hr : vrX pic A nL p l e R s m args below meth c x k n pc lv st0 rest mc ms (qV pic A post a) (xX pic A px)) (kx : ∀ E x', px E x' → vt pic A nL p l e R s m args below meth c Q x' (k + mc) (n + ms) pc lv rest E) (kk : ∀ x', post x' → vv pic A nL p l e R s m args below meth c Q x' (k + mc) (n + ms) (pc + 3) lv rest) : vv pic A nL p l e R s m args below meth c Q x k n pc lv st0 :=
  fun H locs ls hP hS hl => vx_callv (hr H locs ls hP hS hl) hS (fun _ _ h => h) (fun _ h => h) (fun _ _ h => h)
    (fun E ce q9 u _ H1 locs1 ht _ _ hB _ _ hS1 hq hv hcl => kx E u hB.1 H1 locs1 ls q9 ce (by rw [← ht]; exact hB.2) hS1 hl hq hv hcl)
    (fun u _ H1 locs1 ht _ hp hB _ _ hS1 => kk u hp H1 locs1 ls (by rw [← ht]; exact hB) hS1 hl)
end AFTER
/-! ends -/
theorem v_ireturn (C : cx p s m args meth c cc nL Ts own D tys z0 A) {v : Int32} {post : Int32 → σ → Prop} {mc ms : Nat} {ty : FieldType} {a : Array Value} (d : decode cc pc = .ok (.ireturn, 1)) (hr : meth.sig.returnType = some ty) (hn : narrow ty (.int v) = .int v) (hk : k ≤ mc) (hm : n ≤ ms) (h : post v x) : vv pic A nL p l e R s m args below meth c (MQ below (qI pic A post) args s mc ms A) x k n pc lv [.int v] :=
  fun H locs ls hP hS hl => W.widen hk hm (W.zret C.1.1 C.1.2.1 hr hn (fun t ht _ => ⟨⟨v, x, rfl, h, by show pic x t.heap; rw [ht]; exact hP⟩, hS.F ht⟩) hS.2.2 d C.2.2)
theorem v_lreturn (C : cx p s m args meth c cc nL Ts own D tys z0 A) {v : Int64} {post : Int64 → σ → Prop} {mc ms : Nat} (d : decode cc pc = .ok (.lreturn, 1)) (hr : meth.sig.returnType = some .long) (hk : k ≤ mc) (hm : n ≤ ms) (h : post v x) : vv pic A nL p l e R s m args below meth c (MQ below (qL pic A post) args s mc ms A) x k n pc lv [.long v] :=
  fun H locs ls hP hS hl => W.widen hk hm (W.lret C.1.1 C.1.2.1 hr (fun t ht _ => ⟨⟨v, x, rfl, h, by show pic x t.heap; rw [ht]; exact hP⟩, hS.F ht⟩) hS.2.2 d C.2.2)
theorem v_return (C : cx p s m args meth c cc nL Ts own D tys z0 A) {post : σ → Prop} {mc ms : Nat} (d : decode cc pc = .ok (.return_, 1)) (hr : meth.sig.returnType = none) (hk : k ≤ mc) (hm : n ≤ ms) (h : post x) : vv pic A nL p l e R s m args below meth c (MQ below (qV pic A post) args s mc ms A) x k n pc lv [] :=
  fun H locs ls hP hS hl => W.widen hk hm (W.vret C.1.1 C.1.2.1 hr (fun t ht _ => ⟨⟨x, rfl, h, by show pic x t.heap; rw [ht]; exact hP⟩, hS.F ht⟩) hS.2.2 d C.2.2)
theorem v_areturn (C : cx p s m args meth c cc nL Ts own D tys z0 A) {v : Nat} {post : Nat → σ → Prop} {mc ms : Nat} {ty : FieldType} (d : decode cc pc = .ok (.areturn, 1)) (hr : meth.sig.returnType = some ty) (hty : (∃ n, ty = .object n) ∨ ∃ t, ty = .array t) (hk : k ≤ mc) (hm : n ≤ ms) (h : post v x) : vv pic A nL p l e R s m args below meth c (MQ below (qR pic A post) args s mc ms A) x k n pc lv [.ref v] :=
  fun H locs ls hP hS hl => W.widen hk hm (W.aret C.1.1 C.1.2.1 hr hty (Or.inr ⟨v, rfl⟩) (fun t ht _ => ⟨⟨(v, x), v, rfl, h, rfl, by rw [ht]; exact hP⟩, hS.F ht⟩) hS.2.2 d C.2.2)
/-- a method that may throw: its plain end -/
theorem v_xret {Qc : Array Value → State → Outcome → State → Prop} {XC : String → State → State → Prop} {mc ms : Nat} {free : Addr → Prop} (kk : vv pic A nL p l e R s m args below meth c (MQ below Qc args s mc ms free) x k n pc lv st) : vv pic A nL p l e R s m args below meth c (vx_MQ below Qc XC args s mc ms free) x k n pc lv st :=
  fun H locs ls hP hS hl => vx_ret (kk H locs ls hP hS hl)
/-- what a callee threw goes on to the caller -/
theorem v_xout (C : cx p s m args meth c cc nL Ts own D tys z0 A) {Qc : Array Value → State → Outcome → State → Prop} {px : String → σ → Prop} {mc ms : Nat} {rest : List Value} {E : String} (hex : ∀ z ∈ c.exceptionTable.toList, False) (hk : k ≤ mc) (hm : n ≤ ms) (h : px E x) : vt pic A nL p l e R s m args below meth c (vx_MQ below Qc (xX pic A px) args s mc ms A) x k n pc lv rest E :=
  fun H locs ls q ce hP hS hl hq hv hcl => vx_out (fun z hz => absurd (hex z hz) (fun h => h)) C.2.2 hq hv hcl (fun t ht _ => ⟨x, trivial, ⟨h, by rw [ht]; exact hP⟩, hS.F ht⟩) hS.2.2 hk hm
/-! Object.<init> -/
theorem v_objInit (C : cx p s m args meth c cc nL Ts own D tys z0 A) {i a : Nat} (d : decode cc pc = .ok (.invokespecial i, 3)) (hlink : Cond.methodLink own i Lib.objectInit ∈ Ts) (hinst : Cond.instanceMethod Lib.objectInit ∈ Ts) (hcode : Cond.code Lib.objectInit ⟨#[0xb1]⟩ 1 none ∈ Ts) (hfr : 1 ≤ R.frames) (hlo : (st.map fun v => v.category).sum + 12 ≤ R.locals) (kk : vv pic A nL p l e R s m args below meth c Q x k n (pc + 3) lv st) : vv pic A nL p l e R s m args below meth c Q x k n pc lv (.ref a :: st) :=
  fun H locs ls hP hS hl => W.objInit C.1.1 C.1.2.1 C.1.2.2.2.1 (C.1.2.2.2.2 _ hlink) (C.1.2.2.2.2 _ hinst) (C.1.2.2.2.2 _ hcode) rfl (hl.1.trans C.1.2.2.1.symm) rfl d hfr (by rw [show (F0 m pc ls (.ref a :: st)).monitorRoom = 0 from rfl]; omega) (kk H locs ls hP hS hl)
/-! new cells -/
theorem v_new (C : cx p s m args meth c cc nL Ts own D tys z0 A) {Cn : String} {T : u_T} {N ci i : Nat} {fs : List Value} {x' : Nat → σ} {fr : Nat → Prop} (d : decode cc pc = .ok (.new i, 3)) (hin : ∀ w ∈ u_ws Cn T N, w ∈ Ts) (ty : Nat → FieldType) (hty : ∀ k, k < N → parseFieldDescriptor (T k).2.2.1 = some (ty k)) (hcl : Cond.classLink own i Cn ∈ Ts) (hinst : Cond.instantiable Cn N ∈ Ts) (hini : Cond.initialized Cn ∈ Ts) (hc : vwCl[ci]? = some (Cn, T, N)) (hfs : ∀ j, j < N → defaultValue (ty j) = vp_V fs j) (hcells : k + 1 ≤ R.cells) (hslots : n + N ≤ R.slots)
    (g : nO D pic A x (.inr (ci, fs)) x' fr) (kk : ∀ q, fr q → vv pic A nL p l e R s m args below meth c Q (x' q) (k + 1) (n + N) (pc + 3) lv (.ref q :: st)) : vv pic A nL p l e R s m args below meth c Q x k n pc lv st := by
  intro H locs ls hP hS hl
  have hts := C.1.2.2.2.2
  have hKn := C.2.1.1.1 ci _ hc
  obtain ⟨g1, g2⟩ := g H hP
  refine W.newcK C.1.1 C.1.2.1 C.1.2.2.2.1 (hts _ hcl) (hts _ hinst) (hts _ hini) rfl d hcells hslots hKn.2.1 rfl fun H1 kC hkC e1 z1 o1 => ?_
  exact kk H.size g1 H1 locs ls (g2 (C.2.1.2.1 _ hS.1) H1 ⟨_, hc, (u_born ty hts hin hKn hkC e1 hty).to hfs⟩ z1 o1) ⟨Nat.le_trans hS.1 (by omega), fun q h1 h2 => (o1 q (Nat.lt_of_lt_of_le h1 hS.1)).trans (hS.2.1 q h1 h2), hS.2.2⟩ hl
end VC
end
section
theorem zz_test : (1:Nat) + 1 = 2 := rfl
end
