section
-- ===== PART A: goes FIRST, ahead of the names: the tables' words, and 'selects' of the private methods out of them =====
/-- a private method of a class that the tables say can be made, by its rows of tables_1 -/
def lw_okq (q : MethodName × Nat) : Prop := (q.1.cls ≠ "java/lang/invoke/MethodHandle" ∧ q.1.cls ≠ "java/lang/invoke/VarHandle") ∧ Cond.instantiable q.1.cls q.2 ∈ tables_1 ∧ Cond.privateMethod q.1 ∈ tables_1 ∧ Cond.instanceMethod q.1 ∈ tables_1
theorem lw_p0 : lw_okq (⟨"BroadSheet", "isPlace", "(I)Z"⟩, 4) := ⟨⟨by decide +kernel, by decide +kernel⟩, List.mem_of_getElem? (i := 10) (by decide +kernel), List.mem_of_getElem? (i := 174) (by decide +kernel), List.mem_of_getElem? (i := 175) (by decide +kernel)⟩
theorem lw_p1 : lw_okq (⟨"BroadSheet$Eye", "fit", "(III)Z"⟩, 8) := ⟨⟨by decide +kernel, by decide +kernel⟩, List.mem_of_getElem? (i := 18) (by decide +kernel), List.mem_of_getElem? (i := 192) (by decide +kernel), List.mem_of_getElem? (i := 193) (by decide +kernel)⟩
theorem lw_p2 : lw_okq (⟨"BroadSheet$Eye", "isFirstOfGroup", "(I)Z"⟩, 8) := ⟨⟨by decide +kernel, by decide +kernel⟩, List.mem_of_getElem? (i := 18) (by decide +kernel), List.mem_of_getElem? (i := 251) (by decide +kernel), List.mem_of_getElem? (i := 252) (by decide +kernel)⟩
theorem lw_p3 : lw_okq (⟨"BroadSheet$Lips", "weighLast", "()V"⟩, 8) := ⟨⟨by decide +kernel, by decide +kernel⟩, List.mem_of_getElem? (i := 55) (by decide +kernel), List.mem_of_getElem? (i := 346) (by decide +kernel), List.mem_of_getElem? (i := 347) (by decide +kernel)⟩
theorem lw_p4 : lw_okq (⟨"BroadSheet$Lips", "weigh", "(IZ)V"⟩, 8) := ⟨⟨by decide +kernel, by decide +kernel⟩, List.mem_of_getElem? (i := 55) (by decide +kernel), List.mem_of_getElem? (i := 353) (by decide +kernel), List.mem_of_getElem? (i := 354) (by decide +kernel)⟩
theorem lw_p5 : lw_okq (⟨"BroadSheet$Lips", "leastRest", "(IIIZ)I"⟩, 8) := ⟨⟨by decide +kernel, by decide +kernel⟩, List.mem_of_getElem? (i := 55) (by decide +kernel), List.mem_of_getElem? (i := 360) (by decide +kernel), List.mem_of_getElem? (i := 361) (by decide +kernel)⟩
theorem lw_p6 : lw_okq (⟨"BroadSheet$Lips", "highestAfter", "(II)I"⟩, 8) := ⟨⟨by decide +kernel, by decide +kernel⟩, List.mem_of_getElem? (i := 55) (by decide +kernel), List.mem_of_getElem? (i := 365) (by decide +kernel), List.mem_of_getElem? (i := 366) (by decide +kernel)⟩
theorem lw_p7 : lw_okq (⟨"BroadSheet$Lips", "lowestAfter", "(II)I"⟩, 8) := ⟨⟨by decide +kernel, by decide +kernel⟩, List.mem_of_getElem? (i := 55) (by decide +kernel), List.mem_of_getElem? (i := 369) (by decide +kernel), List.mem_of_getElem? (i := 370) (by decide +kernel)⟩
theorem lw_p8 : lw_okq (⟨"BroadSheet$Lips", "settleFirstTwo", "(Z)I"⟩, 8) := ⟨⟨by decide +kernel, by decide +kernel⟩, List.mem_of_getElem? (i := 55) (by decide +kernel), List.mem_of_getElem? (i := 373) (by decide +kernel), List.mem_of_getElem? (i := 374) (by decide +kernel)⟩
theorem lw_p9 : lw_okq (⟨"BroadSheet$Lips", "lesserAfter", "(IIIZ)I"⟩, 8) := ⟨⟨by decide +kernel, by decide +kernel⟩, List.mem_of_getElem? (i := 55) (by decide +kernel), List.mem_of_getElem? (i := 377) (by decide +kernel), List.mem_of_getElem? (i := 378) (by decide +kernel)⟩
theorem lw_p10 : lw_okq (⟨"BroadSheet$Sets", "weigh", "(I)V"⟩, 7) := ⟨⟨by decide +kernel, by decide +kernel⟩, List.mem_of_getElem? (i := 86) (by decide +kernel), List.mem_of_getElem? (i := 411) (by decide +kernel), List.mem_of_getElem? (i := 412) (by decide +kernel)⟩
theorem lw_p11 : lw_okq (⟨"BroadSheet$Sets", "dropCovered", "(I)V"⟩, 7) := ⟨⟨by decide +kernel, by decide +kernel⟩, List.mem_of_getElem? (i := 86) (by decide +kernel), List.mem_of_getElem? (i := 416) (by decide +kernel), List.mem_of_getElem? (i := 417) (by decide +kernel)⟩
theorem lw_p12 : lw_okq (⟨"BroadSheet", "isGrade", "(I)Z"⟩, 4) := ⟨⟨by decide +kernel, by decide +kernel⟩, List.mem_of_getElem? (i := 10) (by decide +kernel), List.mem_of_getElem? (i := 444) (by decide +kernel), List.mem_of_getElem? (i := 445) (by decide +kernel)⟩
theorem lw_p13 : lw_okq (⟨"BroadSheet$Grades", "costOf", "(II)I"⟩, 4) := ⟨⟨by decide +kernel, by decide +kernel⟩, List.mem_of_getElem? (i := 114) (by decide +kernel), List.mem_of_getElem? (i := 452) (by decide +kernel), List.mem_of_getElem? (i := 453) (by decide +kernel)⟩
theorem lw_p14 : lw_okq (⟨"BroadSheet$Grades", "weighAll", "()V"⟩, 4) := ⟨⟨by decide +kernel, by decide +kernel⟩, List.mem_of_getElem? (i := 114) (by decide +kernel), List.mem_of_getElem? (i := 464) (by decide +kernel), List.mem_of_getElem? (i := 465) (by decide +kernel)⟩
theorem lw_p15 : lw_okq (⟨"BroadSheet$Grades", "lesserStep", "(II)I"⟩, 4) := ⟨⟨by decide +kernel, by decide +kernel⟩, List.mem_of_getElem? (i := 114) (by decide +kernel), List.mem_of_getElem? (i := 471) (by decide +kernel), List.mem_of_getElem? (i := 472) (by decide +kernel)⟩
def lw_privs_1 : List (MethodName × Nat) := [(⟨"BroadSheet", "isPlace", "(I)Z"⟩, 4), (⟨"BroadSheet$Eye", "fit", "(III)Z"⟩, 8), (⟨"BroadSheet$Eye", "isFirstOfGroup", "(I)Z"⟩, 8), (⟨"BroadSheet$Lips", "weighLast", "()V"⟩, 8), (⟨"BroadSheet$Lips", "weigh", "(IZ)V"⟩, 8), (⟨"BroadSheet$Lips", "leastRest", "(IIIZ)I"⟩, 8), (⟨"BroadSheet$Lips", "highestAfter", "(II)I"⟩, 8), (⟨"BroadSheet$Lips", "lowestAfter", "(II)I"⟩, 8), (⟨"BroadSheet$Lips", "settleFirstTwo", "(Z)I"⟩, 8), (⟨"BroadSheet$Lips", "lesserAfter", "(IIIZ)I"⟩, 8), (⟨"BroadSheet$Sets", "weigh", "(I)V"⟩, 7), (⟨"BroadSheet$Sets", "dropCovered", "(I)V"⟩, 7), (⟨"BroadSheet", "isGrade", "(I)Z"⟩, 4), (⟨"BroadSheet$Grades", "costOf", "(II)I"⟩, 4), (⟨"BroadSheet$Grades", "weighAll", "()V"⟩, 4), (⟨"BroadSheet$Grades", "lesserStep", "(II)I"⟩, 4)]
theorem lw_r1 : ∀ q ∈ lw_privs_1, lw_okq q := List.forall_mem_cons.mpr ⟨lw_p0, List.forall_mem_cons.mpr ⟨lw_p1, List.forall_mem_cons.mpr ⟨lw_p2, List.forall_mem_cons.mpr ⟨lw_p3, List.forall_mem_cons.mpr ⟨lw_p4, List.forall_mem_cons.mpr ⟨lw_p5, List.forall_mem_cons.mpr ⟨lw_p6, List.forall_mem_cons.mpr ⟨lw_p7, List.forall_mem_cons.mpr ⟨lw_p8, List.forall_mem_cons.mpr ⟨lw_p9, List.forall_mem_cons.mpr ⟨lw_p10, List.forall_mem_cons.mpr ⟨lw_p11, List.forall_mem_cons.mpr ⟨lw_p12, List.forall_mem_cons.mpr ⟨lw_p13, List.forall_mem_cons.mpr ⟨lw_p14, List.forall_mem_cons.mpr ⟨lw_p15, fun _ h => absurd h List.not_mem_nil⟩⟩⟩⟩⟩⟩⟩⟩⟩⟩⟩⟩⟩⟩⟩⟩
theorem lw_p16 : lw_okq (⟨"BroadSheet$Grades", "throughStep", "(III)I"⟩, 4) := ⟨⟨by decide +kernel, by decide +kernel⟩, List.mem_of_getElem? (i := 114) (by decide +kernel), List.mem_of_getElem? (i := 476) (by decide +kernel), List.mem_of_getElem? (i := 477) (by decide +kernel)⟩
theorem lw_p17 : lw_okq (⟨"BroadSheet$Grades", "restOf", "(II)I"⟩, 4) := ⟨⟨by decide +kernel, by decide +kernel⟩, List.mem_of_getElem? (i := 114) (by decide +kernel), List.mem_of_getElem? (i := 483) (by decide +kernel), List.mem_of_getElem? (i := 484) (by decide +kernel)⟩
theorem lw_p18 : lw_okq (⟨"BroadSheet$Grades", "allBut", "(I)I"⟩, 4) := ⟨⟨by decide +kernel, by decide +kernel⟩, List.mem_of_getElem? (i := 114) (by decide +kernel), List.mem_of_getElem? (i := 487) (by decide +kernel), List.mem_of_getElem? (i := 488) (by decide +kernel)⟩
theorem lw_p19 : lw_okq (⟨"BroadSheetModel", "begin", "()V"⟩, 24) := ⟨⟨by decide +kernel, by decide +kernel⟩, List.mem_of_getElem? (i := 523) (by decide +kernel), List.mem_of_getElem? (i := 529) (by decide +kernel), List.mem_of_getElem? (i := 530) (by decide +kernel)⟩
theorem lw_p20 : lw_okq (⟨"BroadSheetModel", "isPlace", "(I)Z"⟩, 24) := ⟨⟨by decide +kernel, by decide +kernel⟩, List.mem_of_getElem? (i := 523) (by decide +kernel), List.mem_of_getElem? (i := 617) (by decide +kernel), List.mem_of_getElem? (i := 618) (by decide +kernel)⟩
theorem lw_p21 : lw_okq (⟨"BroadSheetModel", "isAcross", "(I)Z"⟩, 24) := ⟨⟨by decide +kernel, by decide +kernel⟩, List.mem_of_getElem? (i := 523) (by decide +kernel), List.mem_of_getElem? (i := 631) (by decide +kernel), List.mem_of_getElem? (i := 632) (by decide +kernel)⟩
theorem lw_p22 : lw_okq (⟨"BroadSheetModel", "acrossOf", "(I)I"⟩, 24) := ⟨⟨by decide +kernel, by decide +kernel⟩, List.mem_of_getElem? (i := 523) (by decide +kernel), List.mem_of_getElem? (i := 635) (by decide +kernel), List.mem_of_getElem? (i := 636) (by decide +kernel)⟩
theorem lw_p23 : lw_okq (⟨"BroadSheetModel", "areLawful", "(II)Z"⟩, 24) := ⟨⟨by decide +kernel, by decide +kernel⟩, List.mem_of_getElem? (i := 523) (by decide +kernel), List.mem_of_getElem? (i := 660) (by decide +kernel), List.mem_of_getElem? (i := 661) (by decide +kernel)⟩
theorem lw_p24 : lw_okq (⟨"BroadSheetModel", "error", "(I)I"⟩, 24) := ⟨⟨by decide +kernel, by decide +kernel⟩, List.mem_of_getElem? (i := 523) (by decide +kernel), List.mem_of_getElem? (i := 683) (by decide +kernel), List.mem_of_getElem? (i := 684) (by decide +kernel)⟩
theorem lw_p25 : lw_okq (⟨"BroadSheetModel", "unevenOf", "(I)I"⟩, 24) := ⟨⟨by decide +kernel, by decide +kernel⟩, List.mem_of_getElem? (i := 523) (by decide +kernel), List.mem_of_getElem? (i := 691) (by decide +kernel), List.mem_of_getElem? (i := 692) (by decide +kernel)⟩
theorem lw_p26 : lw_okq (⟨"BroadSheetModel", "layLeast", "(I)V"⟩, 24) := ⟨⟨by decide +kernel, by decide +kernel⟩, List.mem_of_getElem? (i := 523) (by decide +kernel), List.mem_of_getElem? (i := 702) (by decide +kernel), List.mem_of_getElem? (i := 703) (by decide +kernel)⟩
theorem lw_p27 : lw_okq (⟨"BroadSheetModel", "goes", "(IIII)Z"⟩, 24) := ⟨⟨by decide +kernel, by decide +kernel⟩, List.mem_of_getElem? (i := 523) (by decide +kernel), List.mem_of_getElem? (i := 706) (by decide +kernel), List.mem_of_getElem? (i := 707) (by decide +kernel)⟩
theorem lw_p28 : lw_okq (⟨"BroadSheetModel", "lies", "(II)Z"⟩, 24) := ⟨⟨by decide +kernel, by decide +kernel⟩, List.mem_of_getElem? (i := 523) (by decide +kernel), List.mem_of_getElem? (i := 718) (by decide +kernel), List.mem_of_getElem? (i := 719) (by decide +kernel)⟩
theorem lw_p29 : lw_okq (⟨"BroadSheetModel", "layCut", "()V"⟩, 24) := ⟨⟨by decide +kernel, by decide +kernel⟩, List.mem_of_getElem? (i := 523) (by decide +kernel), List.mem_of_getElem? (i := 726) (by decide +kernel), List.mem_of_getElem? (i := 727) (by decide +kernel)⟩
theorem lw_p30 : lw_okq (⟨"BroadSheetModel", "isGrade", "(I)Z"⟩, 24) := ⟨⟨by decide +kernel, by decide +kernel⟩, List.mem_of_getElem? (i := 523) (by decide +kernel), List.mem_of_getElem? (i := 742) (by decide +kernel), List.mem_of_getElem? (i := 743) (by decide +kernel)⟩
theorem lw_p31 : lw_okq (⟨"BroadSheetModel", "layRest", "()V"⟩, 24) := ⟨⟨by decide +kernel, by decide +kernel⟩, List.mem_of_getElem? (i := 523) (by decide +kernel), List.mem_of_getElem? (i := 750) (by decide +kernel), List.mem_of_getElem? (i := 751) (by decide +kernel)⟩
def lw_privs_2 : List (MethodName × Nat) := [(⟨"BroadSheet$Grades", "throughStep", "(III)I"⟩, 4), (⟨"BroadSheet$Grades", "restOf", "(II)I"⟩, 4), (⟨"BroadSheet$Grades", "allBut", "(I)I"⟩, 4), (⟨"BroadSheetModel", "begin", "()V"⟩, 24), (⟨"BroadSheetModel", "isPlace", "(I)Z"⟩, 24), (⟨"BroadSheetModel", "isAcross", "(I)Z"⟩, 24), (⟨"BroadSheetModel", "acrossOf", "(I)I"⟩, 24), (⟨"BroadSheetModel", "areLawful", "(II)Z"⟩, 24), (⟨"BroadSheetModel", "error", "(I)I"⟩, 24), (⟨"BroadSheetModel", "unevenOf", "(I)I"⟩, 24), (⟨"BroadSheetModel", "layLeast", "(I)V"⟩, 24), (⟨"BroadSheetModel", "goes", "(IIII)Z"⟩, 24), (⟨"BroadSheetModel", "lies", "(II)Z"⟩, 24), (⟨"BroadSheetModel", "layCut", "()V"⟩, 24), (⟨"BroadSheetModel", "isGrade", "(I)Z"⟩, 24), (⟨"BroadSheetModel", "layRest", "()V"⟩, 24)]
theorem lw_r2 : ∀ q ∈ lw_privs_2, lw_okq q := List.forall_mem_cons.mpr ⟨lw_p16, List.forall_mem_cons.mpr ⟨lw_p17, List.forall_mem_cons.mpr ⟨lw_p18, List.forall_mem_cons.mpr ⟨lw_p19, List.forall_mem_cons.mpr ⟨lw_p20, List.forall_mem_cons.mpr ⟨lw_p21, List.forall_mem_cons.mpr ⟨lw_p22, List.forall_mem_cons.mpr ⟨lw_p23, List.forall_mem_cons.mpr ⟨lw_p24, List.forall_mem_cons.mpr ⟨lw_p25, List.forall_mem_cons.mpr ⟨lw_p26, List.forall_mem_cons.mpr ⟨lw_p27, List.forall_mem_cons.mpr ⟨lw_p28, List.forall_mem_cons.mpr ⟨lw_p29, List.forall_mem_cons.mpr ⟨lw_p30, List.forall_mem_cons.mpr ⟨lw_p31, fun _ h => absurd h List.not_mem_nil⟩⟩⟩⟩⟩⟩⟩⟩⟩⟩⟩⟩⟩⟩⟩⟩
theorem lw_p32 : lw_okq (⟨"BroadSheetModel", "fitting", "()I"⟩, 24) := ⟨⟨by decide +kernel, by decide +kernel⟩, List.mem_of_getElem? (i := 523) (by decide +kernel), List.mem_of_getElem? (i := 762) (by decide +kernel), List.mem_of_getElem? (i := 763) (by decide +kernel)⟩
def lw_privs_3 : List (MethodName × Nat) := [(⟨"BroadSheetModel", "fitting", "()I"⟩, 24)]
theorem lw_r3 : ∀ q ∈ lw_privs_3, lw_okq q := List.forall_mem_cons.mpr ⟨lw_p32, fun _ h => absurd h List.not_mem_nil⟩
def lw_privs : List (MethodName × Nat) := lw_privs_1 ++ (lw_privs_2 ++ (lw_privs_3))
def lw_tbl : List Cond := k2_sels lw_privs ++ tables_1
theorem lw_privs_ok : ∀ q ∈ lw_privs, lw_okq q := by
  show ∀ q ∈ lw_privs_1 ++ (lw_privs_2 ++ (lw_privs_3)), lw_okq q
  exact List.forall_mem_append.mpr ⟨lw_r1, List.forall_mem_append.mpr ⟨lw_r2, lw_r3⟩⟩
end
section
/-! ===== BEGIN words of one list among another's, by their places ===== -/
theorem goodIn_r {big : List Cond} (ws : List Cond) (ps : List Nat) (hp : ws = ps.filterMap (fun i => big[i]?)) (h : ws.all goodWord = true) : GoodIn big ws := by
  intro w hw
  have h1 := List.all_eq_true.mp h w hw
  rw [hp] at hw
  obtain ⟨i, -, hi⟩ := List.mem_filterMap.mp hw
  have hm : w ∈ big := by first | exact List.mem_of_getElem? hi | exact List.getElem?_mem hi
  exact ⟨hm, good_of_word h1⟩
theorem goodIn_app {big a b : List Cond} (ha : GoodIn big a) (hb : GoodIn big b) : GoodIn big (a ++ b) := fun w h => (List.mem_append.mp h).elim (ha w) (hb w)
theorem goodIn_ca {big a b : List Cond} {c : Cond} (ha : GoodIn big (c :: a)) (hb : GoodIn big b) : GoodIn big (c :: (a ++ b)) := fun w h => (List.mem_cons.mp h).elim (fun e => ha w (List.mem_cons.mpr (Or.inl e))) (fun h => (List.mem_append.mp h).elim (fun h => ha w (List.mem_cons.mpr (Or.inr h))) (hb w))
theorem goodIn_sub {big ws : List Cond} (hm : ∀ w ∈ ws, w ∈ big) (h : ws.all goodWord = true) : GoodIn big ws := fun w hw => ⟨hm w hw, good_of_word (List.all_eq_true.mp h w hw)⟩
/-! ===== END ===== -/

/-! ===== BEGIN printed: names, fields, word lists, decode rows ===== -/
def RX0 : String := "BroadSheet$Eye"
def TX0 : u_T := fun k => match k with
  | 0 => ("BroadSheet$Eye", "times", "[I", true)
  | 1 => ("BroadSheet$Eye", "places", "[I", true)
  | 2 => ("BroadSheet$Eye", "values", "[I", true)
  | 3 => ("BroadSheet$Eye", "fitting", "[Z", true)
  | 4 => ("BroadSheet$Eye", "count", "I", false)
  | 5 => ("BroadSheet$Eye", "fittingCount", "I", false)
  | 6 => ("BroadSheet$Eye", "group", "[I", true)
  | _ => ("BroadSheet$Eye", "height", "[I", true)
def tyX0 : Nat → FieldType := fun k => match k with
  | 0 => .array .int
  | 1 => .array .int
  | 2 => .array .int
  | 3 => .array .boolean
  | 4 => .int
  | 5 => .int
  | 6 => .array .int
  | _ => .array .int
abbrev wsX00 : List Cond := u_ws RX0 TX0 8
theorem nmX0 : ∀ a, a < 8 → ∀ b, b < 8 → a ≠ b → (TX0 a).2.1 ≠ (TX0 b).2.1 := by decide +kernel
theorem tyX0_ok : ∀ k, k < 8 → parseFieldDescriptor (TX0 k).2.2.1 = some (tyX0 k) := by decide +kernel
abbrev cX0_init : ByteArray := prog_2_method_1_code
def yX0_init : MethodName := ⟨RX0, "<init>", "()V"⟩
abbrev cX0_forget : ByteArray := prog_2_method_2_code
def yX0_forget : MethodName := ⟨RX0, "forget", "()V"⟩
abbrev cX0_add : ByteArray := prog_2_method_3_code
def yX0_add : MethodName := ⟨RX0, "add", "(III)Z"⟩
abbrev cX0_fit : ByteArray := prog_2_method_4_code
def yX0_fit : MethodName := ⟨RX0, "fit", "(III)Z"⟩
abbrev cX0_knotOfTime : ByteArray := prog_2_method_5_code
def yX0_knotOfTime : MethodName := ⟨RX0, "knotOfTime", "(I)I"⟩
abbrev cX0_count : ByteArray := prog_2_method_6_code
def yX0_count : MethodName := ⟨RX0, "count", "()I"⟩
abbrev cX0_fittingCount : ByteArray := prog_2_method_7_code
def yX0_fittingCount : MethodName := ⟨RX0, "fittingCount", "()I"⟩
abbrev cX0_timeOf : ByteArray := prog_2_method_8_code
def yX0_timeOf : MethodName := ⟨RX0, "timeOf", "(I)I"⟩
abbrev cX0_placeOf : ByteArray := prog_2_method_9_code
def yX0_placeOf : MethodName := ⟨RX0, "placeOf", "(I)I"⟩
abbrev cX0_valueOf : ByteArray := prog_2_method_10_code
def yX0_valueOf : MethodName := ⟨RX0, "valueOf", "(I)I"⟩
abbrev cX0_isFitting : ByteArray := prog_2_method_11_code
def yX0_isFitting : MethodName := ⟨RX0, "isFitting", "(I)Z"⟩
abbrev cX0_hasAcross : ByteArray := prog_2_method_12_code
def yX0_hasAcross : MethodName := ⟨RX0, "hasAcross", "(I)Z"⟩
abbrev cX0_acrossOf : ByteArray := prog_2_method_13_code
def yX0_acrossOf : MethodName := ⟨RX0, "acrossOf", "(I)I"⟩
abbrev cX0_timesHangTogether : ByteArray := prog_2_method_14_code
def yX0_timesHangTogether : MethodName := ⟨RX0, "timesHangTogether", "(II)Z"⟩
abbrev cX0_moreAlong : ByteArray := prog_2_method_15_code
def yX0_moreAlong : MethodName := ⟨RX0, "moreAlong", "(II)I"⟩
abbrev cX0_countGroups : ByteArray := prog_2_method_16_code
def yX0_countGroups : MethodName := ⟨RX0, "countGroups", "(I)I"⟩
abbrev cX0_isFirstOfGroup : ByteArray := prog_2_method_17_code
def yX0_isFirstOfGroup : MethodName := ⟨RX0, "isFirstOfGroup", "(I)Z"⟩
def RX1 : String := "BroadSheet$Grades"
def TX1 : u_T := fun k => match k with
  | 0 => ("BroadSheet$Grades", "count", "I", false)
  | 1 => ("BroadSheet$Grades", "costs", "[I", true)
  | 2 => ("BroadSheet$Grades", "rest", "[I", true)
  | _ => ("BroadSheet$Grades", "weighed", "Z", false)
def tyX1 : Nat → FieldType := fun k => match k with
  | 0 => .int
  | 1 => .array .int
  | 2 => .array .int
  | _ => .boolean
abbrev wsX10 : List Cond := u_ws RX1 TX1 4
theorem nmX1 : ∀ a, a < 4 → ∀ b, b < 4 → a ≠ b → (TX1 a).2.1 ≠ (TX1 b).2.1 := by decide +kernel
theorem tyX1_ok : ∀ k, k < 4 → parseFieldDescriptor (TX1 k).2.2.1 = some (tyX1 k) := by decide +kernel
abbrev cX1_init : ByteArray := prog_3_method_1_code
def yX1_init : MethodName := ⟨RX1, "<init>", "()V"⟩
abbrev cX1_count : ByteArray := prog_3_method_2_code
def yX1_count : MethodName := ⟨RX1, "count", "()I"⟩
abbrev cX1_add : ByteArray := prog_3_method_3_code
def yX1_add : MethodName := ⟨RX1, "add", "()I"⟩
abbrev cX1_putCost : ByteArray := prog_3_method_4_code
def yX1_putCost : MethodName := ⟨RX1, "putCost", "(III)I"⟩
abbrev cX1_costOf : ByteArray := prog_3_method_5_code
def yX1_costOf : MethodName := ⟨RX1, "costOf", "(II)I"⟩
abbrev cX1_leastCosts : ByteArray := prog_3_method_6_code
def yX1_leastCosts : MethodName := ⟨RX1, "leastCosts", "(I)I"⟩
abbrev cX1_stepOf : ByteArray := prog_3_method_7_code
def yX1_stepOf : MethodName := ⟨RX1, "stepOf", "(II)I"⟩
abbrev cX1_allBut : ByteArray := prog_3_method_8_code
def yX1_allBut : MethodName := ⟨RX1, "allBut", "(I)I"⟩
abbrev cX1_without : ByteArray := prog_3_method_9_code
def yX1_without : MethodName := ⟨RX1, "without", "(II)I"⟩
abbrev cX1_has : ByteArray := prog_3_method_10_code
def yX1_has : MethodName := ⟨RX1, "has", "(II)Z"⟩
abbrev cX1_restOf : ByteArray := prog_3_method_11_code
def yX1_restOf : MethodName := ⟨RX1, "restOf", "(II)I"⟩
abbrev cX1_weighAll : ByteArray := prog_3_method_12_code
def yX1_weighAll : MethodName := ⟨RX1, "weighAll", "()V"⟩
abbrev cX1_throughStep : ByteArray := prog_3_method_13_code
def yX1_throughStep : MethodName := ⟨RX1, "throughStep", "(III)I"⟩
abbrev cX1_lesserStep : ByteArray := prog_3_method_14_code
def yX1_lesserStep : MethodName := ⟨RX1, "lesserStep", "(II)I"⟩
def RX2 : String := "BroadSheet$Lips"
def TX2 : u_T := fun k => match k with
  | 0 => ("BroadSheet$Lips", "bases", "[I", true)
  | 1 => ("BroadSheet$Lips", "settings", "[I", true)
  | 2 => ("BroadSheet$Lips", "places", "I", false)
  | 3 => ("BroadSheet$Lips", "next", "I", false)
  | 4 => ("BroadSheet$Lips", "bend", "I", false)
  | 5 => ("BroadSheet$Lips", "main", "I", false)
  | 6 => ("BroadSheet$Lips", "side", "I", false)
  | _ => ("BroadSheet$Lips", "rest", "[I", true)
def tyX2 : Nat → FieldType := fun k => match k with
  | 0 => .array .int
  | 1 => .array .int
  | 2 => .int
  | 3 => .int
  | 4 => .int
  | 5 => .int
  | 6 => .int
  | _ => .array .int
abbrev wsX20 : List Cond := u_ws RX2 TX2 8
theorem nmX2 : ∀ a, a < 8 → ∀ b, b < 8 → a ≠ b → (TX2 a).2.1 ≠ (TX2 b).2.1 := by decide +kernel
theorem tyX2_ok : ∀ k, k < 8 → parseFieldDescriptor (TX2 k).2.2.1 = some (tyX2 k) := by decide +kernel
abbrev cX2_init : ByteArray := prog_4_method_1_code
def yX2_init : MethodName := ⟨RX2, "<init>", "()V"⟩
abbrev cX2_renew : ByteArray := prog_4_method_2_code
def yX2_renew : MethodName := ⟨RX2, "renew", "(I)V"⟩
abbrev cX2_places : ByteArray := prog_4_method_3_code
def yX2_places : MethodName := ⟨RX2, "places", "()I"⟩
abbrev cX2_nextLaw : ByteArray := prog_4_method_4_code
def yX2_nextLaw : MethodName := ⟨RX2, "nextLaw", "()I"⟩
abbrev cX2_bendLaw : ByteArray := prog_4_method_5_code
def yX2_bendLaw : MethodName := ⟨RX2, "bendLaw", "()I"⟩
abbrev cX2_mainSpread : ByteArray := prog_4_method_6_code
def yX2_mainSpread : MethodName := ⟨RX2, "mainSpread", "()I"⟩
abbrev cX2_sideSpread : ByteArray := prog_4_method_7_code
def yX2_sideSpread : MethodName := ⟨RX2, "sideSpread", "()I"⟩
abbrev cX2_baseOf : ByteArray := prog_4_method_8_code
def yX2_baseOf : MethodName := ⟨RX2, "baseOf", "(I)I"⟩
abbrev cX2_settingOf : ByteArray := prog_4_method_9_code
def yX2_settingOf : MethodName := ⟨RX2, "settingOf", "(I)I"⟩
abbrev cX2_putLaws : ByteArray := prog_4_method_10_code
def yX2_putLaws : MethodName := ⟨RX2, "putLaws", "(II)V"⟩
abbrev cX2_putSpread : ByteArray := prog_4_method_11_code
def yX2_putSpread : MethodName := ⟨RX2, "putSpread", "(II)V"⟩
abbrev cX2_putBase : ByteArray := prog_4_method_12_code
def yX2_putBase : MethodName := ⟨RX2, "putBase", "(II)V"⟩
abbrev cX2_trySetting : ByteArray := prog_4_method_13_code
def yX2_trySetting : MethodName := ⟨RX2, "trySetting", "(II)Z"⟩
abbrev cX2_isLawful : ByteArray := prog_4_method_14_code
def yX2_isLawful : MethodName := ⟨RX2, "isLawful", "(II)Z"⟩
abbrev cX2_errorOf : ByteArray := prog_4_method_15_code
def yX2_errorOf : MethodName := ⟨RX2, "errorOf", "(I)I"⟩
abbrev cX2_sizeOf : ByteArray := prog_4_method_16_code
def yX2_sizeOf : MethodName := ⟨RX2, "sizeOf", "(I)I"⟩
abbrev cX2_unevenness : ByteArray := prog_4_method_17_code
def yX2_unevenness : MethodName := ⟨RX2, "unevenness", "(Z)I"⟩
abbrev cX2_together : ByteArray := prog_4_method_18_code
def yX2_together : MethodName := ⟨RX2, "together", "(IIZ)I"⟩
abbrev cX2_settle : ByteArray := prog_4_method_19_code
def yX2_settle : MethodName := ⟨RX2, "settle", "(Z)I"⟩
abbrev cX2_weighLast : ByteArray := prog_4_method_20_code
def yX2_weighLast : MethodName := ⟨RX2, "weighLast", "()V"⟩
abbrev cX2_weigh : ByteArray := prog_4_method_21_code
def yX2_weigh : MethodName := ⟨RX2, "weigh", "(IZ)V"⟩
abbrev cX2_leastRest : ByteArray := prog_4_method_22_code
def yX2_leastRest : MethodName := ⟨RX2, "leastRest", "(IIIZ)I"⟩
abbrev cX2_settleFirstTwo : ByteArray := prog_4_method_23_code
def yX2_settleFirstTwo : MethodName := ⟨RX2, "settleFirstTwo", "(Z)I"⟩
abbrev cX2_lesserAfter : ByteArray := prog_4_method_24_code
def yX2_lesserAfter : MethodName := ⟨RX2, "lesserAfter", "(IIIZ)I"⟩
abbrev cX2_lowestAfter : ByteArray := prog_4_method_25_code
def yX2_lowestAfter : MethodName := ⟨RX2, "lowestAfter", "(II)I"⟩
abbrev cX2_highestAfter : ByteArray := prog_4_method_26_code
def yX2_highestAfter : MethodName := ⟨RX2, "highestAfter", "(II)I"⟩
abbrev cX2_spot : ByteArray := prog_4_method_27_code
def yX2_spot : MethodName := ⟨RX2, "spot", "(III)I"⟩
def RX3 : String := "BroadSheet$Sets"
def TX3 : u_T := fun k => match k with
  | 0 => ("BroadSheet$Sets", "lips", "LBroadSheet$Lips;", true)
  | 1 => ("BroadSheet$Sets", "widths", "[I", true)
  | 2 => ("BroadSheet$Sets", "prices", "[I", true)
  | 3 => ("BroadSheet$Sets", "bounds", "[I", true)
  | 4 => ("BroadSheet$Sets", "count", "I", false)
  | 5 => ("BroadSheet$Sets", "worth", "[I", true)
  | _ => ("BroadSheet$Sets", "begins", "[I", true)
def tyX3 : Nat → FieldType := fun k => match k with
  | 0 => .object "BroadSheet$Lips"
  | 1 => .array .int
  | 2 => .array .int
  | 3 => .array .int
  | 4 => .int
  | 5 => .array .int
  | _ => .array .int
abbrev wsX30 : List Cond := u_ws RX3 TX3 7
theorem nmX3 : ∀ a, a < 7 → ∀ b, b < 7 → a ≠ b → (TX3 a).2.1 ≠ (TX3 b).2.1 := by decide +kernel
theorem tyX3_ok : ∀ k, k < 7 → parseFieldDescriptor (TX3 k).2.2.1 = some (tyX3 k) := by decide +kernel
abbrev cX3_init : ByteArray := prog_5_method_1_code
def yX3_init : MethodName := ⟨RX3, "<init>", "(LBroadSheet$Lips;)V"⟩
abbrev cX3_forget : ByteArray := prog_5_method_2_code
def yX3_forget : MethodName := ⟨RX3, "forget", "()V"⟩
abbrev cX3_count : ByteArray := prog_5_method_3_code
def yX3_count : MethodName := ⟨RX3, "count", "()I"⟩
abbrev cX3_add : ByteArray := prog_5_method_4_code
def yX3_add : MethodName := ⟨RX3, "add", "(III)I"⟩
abbrev cX3_lies : ByteArray := prog_5_method_5_code
def yX3_lies : MethodName := ⟨RX3, "lies", "(II)Z"⟩
abbrev cX3_plan : ByteArray := prog_5_method_6_code
def yX3_plan : MethodName := ⟨RX3, "plan", "()I"⟩
abbrev cX3_weigh : ByteArray := prog_5_method_7_code
def yX3_weigh : MethodName := ⟨RX3, "weigh", "(I)V"⟩
abbrev cX3_dropCovered : ByteArray := prog_5_method_8_code
def yX3_dropCovered : MethodName := ⟨RX3, "dropCovered", "(I)V"⟩
abbrev cX3_plannedAt : ByteArray := prog_5_method_9_code
def yX3_plannedAt : MethodName := ⟨RX3, "plannedAt", "(I)I"⟩
def RX4 : String := "BroadSheet"
def TX4 : u_T := fun k => match k with
  | 0 => ("BroadSheet", "eye", "LBroadSheet$Eye;", true)
  | 1 => ("BroadSheet", "lips", "LBroadSheet$Lips;", true)
  | 2 => ("BroadSheet", "sets", "LBroadSheet$Sets;", true)
  | _ => ("BroadSheet", "grades", "LBroadSheet$Grades;", true)
def tyX4 : Nat → FieldType := fun k => match k with
  | 0 => .object "BroadSheet$Eye"
  | 1 => .object "BroadSheet$Lips"
  | 2 => .object "BroadSheet$Sets"
  | _ => .object "BroadSheet$Grades"
abbrev wsX40 : List Cond := u_ws RX4 TX4 4
theorem nmX4 : ∀ a, a < 4 → ∀ b, b < 4 → a ≠ b → (TX4 a).2.1 ≠ (TX4 b).2.1 := by decide +kernel
theorem tyX4_ok : ∀ k, k < 4 → parseFieldDescriptor (TX4 k).2.2.1 = some (tyX4 k) := by decide +kernel
abbrev cX4_init : ByteArray := prog_1_method_1_code
def yX4_init : MethodName := ⟨RX4, "<init>", "()V"⟩
abbrev cX4_sheet : ByteArray := prog_1_method_2_code
def yX4_sheet : MethodName := ⟨RX4, "sheet", "(I)I"⟩
abbrev cX4_read : ByteArray := prog_1_method_3_code
def yX4_read : MethodName := ⟨RX4, "read", "(III)I"⟩
abbrev cX4_reading : ByteArray := prog_1_method_4_code
def yX4_reading : MethodName := ⟨RX4, "reading", "(II)I"⟩
abbrev cX4_across : ByteArray := prog_1_method_5_code
def yX4_across : MethodName := ⟨RX4, "across", "(I)I"⟩
abbrev cX4_along : ByteArray := prog_1_method_6_code
def yX4_along : MethodName := ⟨RX4, "along", "(II)I"⟩
abbrev cX4_groups : ByteArray := prog_1_method_7_code
def yX4_groups : MethodName := ⟨RX4, "groups", "()I"⟩
abbrev cX4_take : ByteArray := prog_1_method_8_code
def yX4_take : MethodName := ⟨RX4, "take", "()I"⟩
abbrev cX4_clear : ByteArray := prog_1_method_9_code
def yX4_clear : MethodName := ⟨RX4, "clear", "()I"⟩
abbrev cX4_laws : ByteArray := prog_1_method_10_code
def yX4_laws : MethodName := ⟨RX4, "laws", "(II)I"⟩
abbrev cX4_spread : ByteArray := prog_1_method_11_code
def yX4_spread : MethodName := ⟨RX4, "spread", "(II)I"⟩
abbrev cX4_base : ByteArray := prog_1_method_12_code
def yX4_base : MethodName := ⟨RX4, "base", "(II)I"⟩
abbrev cX4_set : ByteArray := prog_1_method_13_code
def yX4_set : MethodName := ⟨RX4, "set", "(II)I"⟩
abbrev cX4_about : ByteArray := prog_1_method_14_code
def yX4_about : MethodName := ⟨RX4, "about", "(II)I"⟩
abbrev cX4_uneven : ByteArray := prog_1_method_15_code
def yX4_uneven : MethodName := ⟨RX4, "uneven", "(I)I"⟩
abbrev cX4_best : ByteArray := prog_1_method_16_code
def yX4_best : MethodName := ⟨RX4, "best", "(I)I"⟩
abbrev cX4_kind : ByteArray := prog_1_method_17_code
def yX4_kind : MethodName := ⟨RX4, "kind", "(III)I"⟩
abbrev cX4_canLie : ByteArray := prog_1_method_18_code
def yX4_canLie : MethodName := ⟨RX4, "canLie", "(II)I"⟩
abbrev cX4_cut : ByteArray := prog_1_method_19_code
def yX4_cut : MethodName := ⟨RX4, "cut", "()I"⟩
abbrev cX4_cutAt : ByteArray := prog_1_method_20_code
def yX4_cutAt : MethodName := ⟨RX4, "cutAt", "(I)I"⟩
abbrev cX4_grade : ByteArray := prog_1_method_21_code
def yX4_grade : MethodName := ⟨RX4, "grade", "()I"⟩
abbrev cX4_cost : ByteArray := prog_1_method_22_code
def yX4_cost : MethodName := ⟨RX4, "cost", "(III)I"⟩
abbrev cX4_tour : ByteArray := prog_1_method_23_code
def yX4_tour : MethodName := ⟨RX4, "tour", "(I)I"⟩
abbrev cX4_tourAt : ByteArray := prog_1_method_24_code
def yX4_tourAt : MethodName := ⟨RX4, "tourAt", "(II)I"⟩
abbrev cX4_told : ByteArray := prog_1_method_25_code
def yX4_told : MethodName := ⟨RX4, "told", "(I)I"⟩
abbrev cX4_isPlace : ByteArray := prog_1_method_26_code
def yX4_isPlace : MethodName := ⟨RX4, "isPlace", "(I)Z"⟩
abbrev cX4_isGrade : ByteArray := prog_1_method_27_code
def yX4_isGrade : MethodName := ⟨RX4, "isGrade", "(I)Z"⟩
abbrev cX4_isTime : ByteArray := prog_1_method_28_code
def yX4_isTime : MethodName := ⟨RX4, "isTime", "(I)Z"⟩
abbrev cX4_within : ByteArray := prog_1_method_29_code
def yX4_within : MethodName := ⟨RX4, "within", "(III)Z"⟩
def RX5 : String := "BroadSheetModel"
def TX5 : u_T := fun k => match k with
  | 0 => ("BroadSheetModel", "places", "I", false)
  | 1 => ("BroadSheetModel", "readings", "I", false)
  | 2 => ("BroadSheetModel", "time", "[I", true)
  | 3 => ("BroadSheetModel", "place", "[I", true)
  | 4 => ("BroadSheetModel", "value", "[I", true)
  | 5 => ("BroadSheetModel", "fits", "[Z", true)
  | 6 => ("BroadSheetModel", "group", "[I", true)
  | 7 => ("BroadSheetModel", "more", "[I", true)
  | 8 => ("BroadSheetModel", "base", "[I", true)
  | 9 => ("BroadSheetModel", "setting", "[I", true)
  | 10 => ("BroadSheetModel", "next", "I", false)
  | 11 => ("BroadSheetModel", "bend", "I", false)
  | 12 => ("BroadSheetModel", "main", "I", false)
  | 13 => ("BroadSheetModel", "side", "I", false)
  | 14 => ("BroadSheetModel", "kinds", "I", false)
  | 15 => ("BroadSheetModel", "width", "[I", true)
  | 16 => ("BroadSheetModel", "price", "[I", true)
  | 17 => ("BroadSheetModel", "bound", "[I", true)
  | 18 => ("BroadSheetModel", "grades", "I", false)
  | 19 => ("BroadSheetModel", "cost", "[I", true)
  | 20 => ("BroadSheetModel", "least", "[I", true)
  | 21 => ("BroadSheetModel", "worth", "[I", true)
  | 22 => ("BroadSheetModel", "begins", "[I", true)
  | _ => ("BroadSheetModel", "rest", "[I", true)
def tyX5 : Nat → FieldType := fun k => match k with
  | 0 => .int
  | 1 => .int
  | 2 => .array .int
  | 3 => .array .int
  | 4 => .array .int
  | 5 => .array .boolean
  | 6 => .array .int
  | 7 => .array .int
  | 8 => .array .int
  | 9 => .array .int
  | 10 => .int
  | 11 => .int
  | 12 => .int
  | 13 => .int
  | 14 => .int
  | 15 => .array .int
  | 16 => .array .int
  | 17 => .array .int
  | 18 => .int
  | 19 => .array .int
  | 20 => .array .int
  | 21 => .array .int
  | 22 => .array .int
  | _ => .array .int
abbrev wsX50 : List Cond := u_ws RX5 TX5 24
theorem nmX5 : ∀ a, a < 24 → ∀ b, b < 24 → a ≠ b → (TX5 a).2.1 ≠ (TX5 b).2.1 := by decide +kernel
theorem tyX5_ok : ∀ k, k < 24 → parseFieldDescriptor (TX5 k).2.2.1 = some (tyX5 k) := by decide +kernel
abbrev cX5_init : ByteArray := prog_7_method_1_code
def yX5_init : MethodName := ⟨RX5, "<init>", "()V"⟩
abbrev cX5_in : ByteArray := prog_7_method_2_code
def yX5_in : MethodName := ⟨RX5, "in", "(III)Z"⟩
abbrev cX5_size : ByteArray := prog_7_method_3_code
def yX5_size : MethodName := ⟨RX5, "size", "(I)I"⟩
abbrev cX5_isPlace : ByteArray := prog_7_method_4_code
def yX5_isPlace : MethodName := ⟨RX5, "isPlace", "(I)Z"⟩
abbrev cX5_begin : ByteArray := prog_7_method_5_code
def yX5_begin : MethodName := ⟨RX5, "begin", "()V"⟩
abbrev cX5_sheet : ByteArray := prog_7_method_6_code
def yX5_sheet : MethodName := ⟨RX5, "sheet", "(I)I"⟩
abbrev cX5_read : ByteArray := prog_7_method_7_code
def yX5_read : MethodName := ⟨RX5, "read", "(III)I"⟩
abbrev cX5_reading : ByteArray := prog_7_method_8_code
def yX5_reading : MethodName := ⟨RX5, "reading", "(II)I"⟩
abbrev cX5_isAcross : ByteArray := prog_7_method_9_code
def yX5_isAcross : MethodName := ⟨RX5, "isAcross", "(I)Z"⟩
abbrev cX5_acrossOf : ByteArray := prog_7_method_10_code
def yX5_acrossOf : MethodName := ⟨RX5, "acrossOf", "(I)I"⟩
abbrev cX5_across : ByteArray := prog_7_method_11_code
def yX5_across : MethodName := ⟨RX5, "across", "(I)I"⟩
abbrev cX5_along : ByteArray := prog_7_method_12_code
def yX5_along : MethodName := ⟨RX5, "along", "(II)I"⟩
abbrev cX5_groups : ByteArray := prog_7_method_13_code
def yX5_groups : MethodName := ⟨RX5, "groups", "()I"⟩
abbrev cX5_take : ByteArray := prog_7_method_14_code
def yX5_take : MethodName := ⟨RX5, "take", "()I"⟩
abbrev cX5_clear : ByteArray := prog_7_method_15_code
def yX5_clear : MethodName := ⟨RX5, "clear", "()I"⟩
abbrev cX5_areLawful : ByteArray := prog_7_method_16_code
def yX5_areLawful : MethodName := ⟨RX5, "areLawful", "(II)Z"⟩
abbrev cX5_laws : ByteArray := prog_7_method_17_code
def yX5_laws : MethodName := ⟨RX5, "laws", "(II)I"⟩
abbrev cX5_spread : ByteArray := prog_7_method_18_code
def yX5_spread : MethodName := ⟨RX5, "spread", "(II)I"⟩
abbrev cX5_base : ByteArray := prog_7_method_19_code
def yX5_base : MethodName := ⟨RX5, "base", "(II)I"⟩
abbrev cX5_set : ByteArray := prog_7_method_20_code
def yX5_set : MethodName := ⟨RX5, "set", "(II)I"⟩
abbrev cX5_error : ByteArray := prog_7_method_21_code
def yX5_error : MethodName := ⟨RX5, "error", "(I)I"⟩
abbrev cX5_about : ByteArray := prog_7_method_22_code
def yX5_about : MethodName := ⟨RX5, "about", "(II)I"⟩
abbrev cX5_with : ByteArray := prog_7_method_23_code
def yX5_with : MethodName := ⟨RX5, "with", "(III)I"⟩
abbrev cX5_unevenOf : ByteArray := prog_7_method_24_code
def yX5_unevenOf : MethodName := ⟨RX5, "unevenOf", "(I)I"⟩
abbrev cX5_uneven : ByteArray := prog_7_method_25_code
def yX5_uneven : MethodName := ⟨RX5, "uneven", "(I)I"⟩
abbrev cX5_goes : ByteArray := prog_7_method_26_code
def yX5_goes : MethodName := ⟨RX5, "goes", "(IIII)Z"⟩
abbrev cX5_layLeast : ByteArray := prog_7_method_27_code
def yX5_layLeast : MethodName := ⟨RX5, "layLeast", "(I)V"⟩
abbrev cX5_best : ByteArray := prog_7_method_28_code
def yX5_best : MethodName := ⟨RX5, "best", "(I)I"⟩
abbrev cX5_kind : ByteArray := prog_7_method_29_code
def yX5_kind : MethodName := ⟨RX5, "kind", "(III)I"⟩
abbrev cX5_lies : ByteArray := prog_7_method_30_code
def yX5_lies : MethodName := ⟨RX5, "lies", "(II)Z"⟩
abbrev cX5_canLie : ByteArray := prog_7_method_31_code
def yX5_canLie : MethodName := ⟨RX5, "canLie", "(II)I"⟩
abbrev cX5_layCut : ByteArray := prog_7_method_32_code
def yX5_layCut : MethodName := ⟨RX5, "layCut", "()V"⟩
abbrev cX5_cut : ByteArray := prog_7_method_33_code
def yX5_cut : MethodName := ⟨RX5, "cut", "()I"⟩
abbrev cX5_cutAt : ByteArray := prog_7_method_34_code
def yX5_cutAt : MethodName := ⟨RX5, "cutAt", "(I)I"⟩
abbrev cX5_grade : ByteArray := prog_7_method_35_code
def yX5_grade : MethodName := ⟨RX5, "grade", "()I"⟩
abbrev cX5_isGrade : ByteArray := prog_7_method_36_code
def yX5_isGrade : MethodName := ⟨RX5, "isGrade", "(I)Z"⟩
abbrev cX5_cost : ByteArray := prog_7_method_37_code
def yX5_cost : MethodName := ⟨RX5, "cost", "(III)I"⟩
abbrev cX5_layRest : ByteArray := prog_7_method_38_code
def yX5_layRest : MethodName := ⟨RX5, "layRest", "()V"⟩
abbrev cX5_tour : ByteArray := prog_7_method_39_code
def yX5_tour : MethodName := ⟨RX5, "tour", "(I)I"⟩
abbrev cX5_tourAt : ByteArray := prog_7_method_40_code
def yX5_tourAt : MethodName := ⟨RX5, "tourAt", "(II)I"⟩
abbrev cX5_fitting : ByteArray := prog_7_method_41_code
def yX5_fitting : MethodName := ⟨RX5, "fitting", "()I"⟩
abbrev cX5_told : ByteArray := prog_7_method_42_code
def yX5_told : MethodName := ⟨RX5, "told", "(I)I"⟩
def RJ9 : String := "java/lang/Math"
def TJ9 : u_T := fun k => match k with
  | _ => ("", "", "", false)
def tyJ9 : Nat → FieldType := fun k => match k with
  | _ => .int
abbrev wsJ90 : List Cond := u_ws RJ9 TJ9 0
theorem nmJ9 : ∀ a, a < 0 → ∀ b, b < 0 → a ≠ b → (TJ9 a).2.1 ≠ (TJ9 b).2.1 := by decide +kernel
theorem tyJ9_ok : ∀ k, k < 0 → parseFieldDescriptor (TJ9 k).2.2.1 = some (tyJ9 k) := by decide +kernel
abbrev cJ9_abs_0f7a4 : ByteArray := prog_8_method_59_code
def yJ9_abs_0f7a4 : MethodName := ⟨RJ9, "abs", "(I)I"⟩
abbrev cJ9_max_7cf53 : ByteArray := prog_8_method_65_code
def yJ9_max_7cf53 : MethodName := ⟨RJ9, "max", "(II)I"⟩
abbrev cJ9_min_7cf53 : ByteArray := prog_8_method_69_code
def yJ9_min_7cf53 : MethodName := ⟨RJ9, "min", "(II)I"⟩
def RJ7 : String := "java/util/Arrays"
def TJ7 : u_T := fun k => match k with
  | _ => ("", "", "", false)
def tyJ7 : Nat → FieldType := fun k => match k with
  | _ => .int
abbrev wsJ70 : List Cond := u_ws RJ7 TJ7 0
theorem nmJ7 : ∀ a, a < 0 → ∀ b, b < 0 → a ≠ b → (TJ7 a).2.1 ≠ (TJ7 b).2.1 := by decide +kernel
theorem tyJ7_ok : ∀ k, k < 0 → parseFieldDescriptor (TJ7 k).2.2.1 = some (tyJ7 k) := by decide +kernel
abbrev cJ7_fill_53178 : ByteArray := prog_9_method_103_code
def yJ7_fill_53178 : MethodName := ⟨RJ7, "fill", "([II)V"⟩
def RL : String := "BroadSheetLaw"
abbrev cL_law : ByteArray := code
def yL_law : MethodName := ⟨RL, "law", "([I)Z"⟩
def wsX0_forget : List Cond := .code yX0_forget cX0_forget 2 none :: ([.fieldLink RX0 34 "BroadSheet$Eye" "count" "I", .fieldLink RX0 38 "BroadSheet$Eye" "fittingCount" "I", .fieldLink RX0 25 "BroadSheet$Eye" "group" "[I", .fieldLink RX0 28 "BroadSheet$Eye" "height" "[I"] ++ wsX00)
def wsX0_init : List Cond := .code yX0_init cX0_init 1 none :: ([.methodLink RX0 3 objectInit, .instanceMethod objectInit, .code objectInit ⟨#[0xb1]⟩ 1 none, .arrayClass .int, .fieldLink RX0 9 "BroadSheet$Eye" "times" "[I", .fieldLink RX0 15 "BroadSheet$Eye" "places" "[I", .fieldLink RX0 18 "BroadSheet$Eye" "values" "[I", .arrayClass .boolean, .fieldLink RX0 21 "BroadSheet$Eye" "fitting" "[Z", .fieldLink RX0 25 "BroadSheet$Eye" "group" "[I", .fieldLink RX0 28 "BroadSheet$Eye" "height" "[I", .methodLink RX0 31 yX0_forget, .instanceMethod yX0_forget, .selects RX0 yX0_forget yX0_forget, .initialized RX0, .code yX0_forget cX0_forget 2 none, .fieldLink RX0 34 "BroadSheet$Eye" "count" "I", .fieldLink RX0 38 "BroadSheet$Eye" "fittingCount" "I"] ++ wsX00)
def wsX0_knotOfTime : List Cond := .code yX0_knotOfTime cX0_knotOfTime 1 (some .int) :: ([])
def wsX0_fit : List Cond := .code yX0_fit cX0_fit 8 (some .boolean) :: ([.fieldLink RX0 25 "BroadSheet$Eye" "group" "[I", .fieldLink RX0 28 "BroadSheet$Eye" "height" "[I"] ++ wsX00)
def wsX0_add : List Cond := .code yX0_add cX0_add 5 (some .boolean) :: ([.fieldLink RX0 9 "BroadSheet$Eye" "times" "[I", .fieldLink RX0 34 "BroadSheet$Eye" "count" "I", .fieldLink RX0 15 "BroadSheet$Eye" "places" "[I", .fieldLink RX0 18 "BroadSheet$Eye" "values" "[I", .fieldLink RX0 21 "BroadSheet$Eye" "fitting" "[Z", .fieldLink RX0 38 "BroadSheet$Eye" "fittingCount" "I", .methodLink RX0 41 yX0_knotOfTime, .static yX0_knotOfTime, .initialized RX0, .code yX0_knotOfTime cX0_knotOfTime 1 (some .int), .methodLink RX0 45 yX0_fit, .instanceMethod yX0_fit, .selects RX0 yX0_fit yX0_fit, .code yX0_fit cX0_fit 8 (some .boolean), .fieldLink RX0 25 "BroadSheet$Eye" "group" "[I", .fieldLink RX0 28 "BroadSheet$Eye" "height" "[I"] ++ wsX00)
def wsX0_count : List Cond := .code yX0_count cX0_count 1 (some .int) :: ([.fieldLink RX0 34 "BroadSheet$Eye" "count" "I"] ++ wsX00)
def wsX0_fittingCount : List Cond := .code yX0_fittingCount cX0_fittingCount 1 (some .int) :: ([.fieldLink RX0 38 "BroadSheet$Eye" "fittingCount" "I"] ++ wsX00)
def wsX0_timeOf : List Cond := .code yX0_timeOf cX0_timeOf 2 (some .int) :: ([.fieldLink RX0 9 "BroadSheet$Eye" "times" "[I"] ++ wsX00)
def wsX0_placeOf : List Cond := .code yX0_placeOf cX0_placeOf 2 (some .int) :: ([.fieldLink RX0 15 "BroadSheet$Eye" "places" "[I"] ++ wsX00)
def wsX0_valueOf : List Cond := .code yX0_valueOf cX0_valueOf 2 (some .int) :: ([.fieldLink RX0 18 "BroadSheet$Eye" "values" "[I"] ++ wsX00)
def wsX0_isFitting : List Cond := .code yX0_isFitting cX0_isFitting 2 (some .boolean) :: ([.fieldLink RX0 21 "BroadSheet$Eye" "fitting" "[Z"] ++ wsX00)
def wsX0_hasAcross : List Cond := .code yX0_hasAcross cX0_hasAcross 2 (some .boolean) :: ([.fieldLink RX0 25 "BroadSheet$Eye" "group" "[I"] ++ wsX00)
def wsX0_acrossOf : List Cond := .code yX0_acrossOf cX0_acrossOf 2 (some .int) :: ([.fieldLink RX0 28 "BroadSheet$Eye" "height" "[I"] ++ wsX00)
def wsX0_timesHangTogether : List Cond := .code yX0_timesHangTogether cX0_timesHangTogether 3 (some .boolean) :: ([.fieldLink RX0 25 "BroadSheet$Eye" "group" "[I", .methodLink RX0 41 yX0_knotOfTime, .static yX0_knotOfTime, .initialized RX0, .code yX0_knotOfTime cX0_knotOfTime 1 (some .int)] ++ wsX00)
def wsX0_moreAlong : List Cond := .code yX0_moreAlong cX0_moreAlong 3 (some .int) :: ([.fieldLink RX0 28 "BroadSheet$Eye" "height" "[I", .methodLink RX0 41 yX0_knotOfTime, .static yX0_knotOfTime, .initialized RX0, .code yX0_knotOfTime cX0_knotOfTime 1 (some .int)] ++ wsX00)
def wsX0_isFirstOfGroup : List Cond := .code yX0_isFirstOfGroup cX0_isFirstOfGroup 3 (some .boolean) :: ([.fieldLink RX0 25 "BroadSheet$Eye" "group" "[I"] ++ wsX00)
def wsX0_countGroups : List Cond := .code yX0_countGroups cX0_countGroups 4 (some .int) :: ([.methodLink RX0 49 yX0_isFirstOfGroup, .instanceMethod yX0_isFirstOfGroup, .selects RX0 yX0_isFirstOfGroup yX0_isFirstOfGroup, .initialized RX0, .code yX0_isFirstOfGroup cX0_isFirstOfGroup 3 (some .boolean), .fieldLink RX0 25 "BroadSheet$Eye" "group" "[I"] ++ wsX00)
def wsJ7_fill_53178 : List Cond := .code yJ7_fill_53178 cJ7_fill_53178 4 none :: ([])
def wsX1_init : List Cond := .code yX1_init cX1_init 1 none :: ([.methodLink RX1 3 objectInit, .instanceMethod objectInit, .code objectInit ⟨#[0xb1]⟩ 1 none, .arrayClass .int, .fieldLink RX1 9 "BroadSheet$Grades" "costs" "[I", .fieldLink RX1 15 "BroadSheet$Grades" "rest" "[I", .methodLink RX1 18 yJ7_fill_53178, .static yJ7_fill_53178, .initialized RJ7, .code yJ7_fill_53178 cJ7_fill_53178 4 none] ++ wsX10)
def wsX1_count : List Cond := .code yX1_count cX1_count 1 (some .int) :: ([.fieldLink RX1 24 "BroadSheet$Grades" "count" "I"] ++ wsX10)
def wsX1_add : List Cond := .code yX1_add cX1_add 1 (some .int) :: ([.fieldLink RX1 28 "BroadSheet$Grades" "weighed" "Z", .fieldLink RX1 24 "BroadSheet$Grades" "count" "I"] ++ wsX10)
def wsX1_costOf : List Cond := .code yX1_costOf cX1_costOf 3 (some .int) :: ([.fieldLink RX1 9 "BroadSheet$Grades" "costs" "[I"] ++ wsX10)
def wsX1_putCost : List Cond := .code yX1_putCost cX1_putCost 5 (some .int) :: ([.fieldLink RX1 9 "BroadSheet$Grades" "costs" "[I", .fieldLink RX1 28 "BroadSheet$Grades" "weighed" "Z", .methodLink RX1 32 yX1_costOf, .instanceMethod yX1_costOf, .selects RX1 yX1_costOf yX1_costOf, .initialized RX1, .code yX1_costOf cX1_costOf 3 (some .int)] ++ wsX10)
def wsX1_has : List Cond := .code yX1_has cX1_has 2 (some .boolean) :: ([])
def wsX1_without : List Cond := .code yX1_without cX1_without 2 (some .int) :: ([])
def wsX1_restOf : List Cond := .code yX1_restOf cX1_restOf 3 (some .int) :: ([.fieldLink RX1 15 "BroadSheet$Grades" "rest" "[I"] ++ wsX10)
def wsX1_throughStep : List Cond := .code yX1_throughStep cX1_throughStep 4 (some .int) :: ([.methodLink RX1 32 yX1_costOf, .instanceMethod yX1_costOf, .selects RX1 yX1_costOf yX1_costOf, .initialized RX1, .code yX1_costOf cX1_costOf 3 (some .int), .fieldLink RX1 9 "BroadSheet$Grades" "costs" "[I", .methodLink RX1 49 yX1_without, .static yX1_without, .code yX1_without cX1_without 2 (some .int), .methodLink RX1 43 yX1_restOf, .instanceMethod yX1_restOf, .selects RX1 yX1_restOf yX1_restOf, .code yX1_restOf cX1_restOf 3 (some .int), .fieldLink RX1 15 "BroadSheet$Grades" "rest" "[I"] ++ wsX10)
def wsX1_lesserStep : List Cond := .code yX1_lesserStep cX1_lesserStep 7 (some .int) :: ([.constant RX1 60 (1000000), .fieldLink RX1 24 "BroadSheet$Grades" "count" "I", .methodLink RX1 52 yX1_has, .static yX1_has, .initialized RX1, .code yX1_has cX1_has 2 (some .boolean), .methodLink RX1 56 yX1_throughStep, .instanceMethod yX1_throughStep, .selects RX1 yX1_throughStep yX1_throughStep, .code yX1_throughStep cX1_throughStep 4 (some .int), .methodLink RX1 32 yX1_costOf, .instanceMethod yX1_costOf, .selects RX1 yX1_costOf yX1_costOf, .code yX1_costOf cX1_costOf 3 (some .int), .fieldLink RX1 9 "BroadSheet$Grades" "costs" "[I", .methodLink RX1 49 yX1_without, .static yX1_without, .code yX1_without cX1_without 2 (some .int), .methodLink RX1 43 yX1_restOf, .instanceMethod yX1_restOf, .selects RX1 yX1_restOf yX1_restOf, .code yX1_restOf cX1_restOf 3 (some .int), .fieldLink RX1 15 "BroadSheet$Grades" "rest" "[I"] ++ wsX10)
def wsX1_weighAll_r1 : List Cond := [Cond.fieldLink RX1 28 "BroadSheet$Grades" "weighed" "Z", Cond.fieldLink RX1 24 "BroadSheet$Grades" "count" "I", Cond.fieldLink RX1 15 "BroadSheet$Grades" "rest" "[I", Cond.methodLink RX1 52 yX1_has, Cond.static yX1_has, Cond.initialized RX1, Cond.code yX1_has cX1_has 2 (some .boolean), Cond.methodLink RX1 46 yX1_lesserStep, Cond.instanceMethod yX1_lesserStep, Cond.selects RX1 yX1_lesserStep yX1_lesserStep, Cond.code yX1_lesserStep cX1_lesserStep 7 (some .int), Cond.constant RX1 60 (1000000), Cond.methodLink RX1 56 yX1_throughStep, Cond.instanceMethod yX1_throughStep, Cond.selects RX1 yX1_throughStep yX1_throughStep, Cond.code yX1_throughStep cX1_throughStep 4 (some .int), Cond.methodLink RX1 32 yX1_costOf, Cond.instanceMethod yX1_costOf, Cond.selects RX1 yX1_costOf yX1_costOf, Cond.code yX1_costOf cX1_costOf 3 (some .int), Cond.fieldLink RX1 9 "BroadSheet$Grades" "costs" "[I", Cond.methodLink RX1 49 yX1_without, Cond.static yX1_without, Cond.code yX1_without cX1_without 2 (some .int)]
def wsX1_weighAll_r2 : List Cond := [Cond.methodLink RX1 43 yX1_restOf, Cond.instanceMethod yX1_restOf, Cond.selects RX1 yX1_restOf yX1_restOf, Cond.code yX1_restOf cX1_restOf 3 (some .int)]
def wsX1_weighAll : List Cond := .code yX1_weighAll cX1_weighAll 3 none :: ((wsX1_weighAll_r1 ++ wsX1_weighAll_r2) ++ wsX10)
def wsX1_allBut : List Cond := .code yX1_allBut cX1_allBut 2 (some .int) :: ([.fieldLink RX1 24 "BroadSheet$Grades" "count" "I", .methodLink RX1 49 yX1_without, .static yX1_without, .initialized RX1, .code yX1_without cX1_without 2 (some .int)] ++ wsX10)
def wsX1_leastCosts_r1 : List Cond := [Cond.methodLink RX1 36 yX1_weighAll, Cond.instanceMethod yX1_weighAll, Cond.selects RX1 yX1_weighAll yX1_weighAll, Cond.initialized RX1, Cond.code yX1_weighAll cX1_weighAll 3 none, Cond.fieldLink RX1 28 "BroadSheet$Grades" "weighed" "Z", Cond.fieldLink RX1 24 "BroadSheet$Grades" "count" "I", Cond.fieldLink RX1 15 "BroadSheet$Grades" "rest" "[I", Cond.methodLink RX1 52 yX1_has, Cond.static yX1_has, Cond.code yX1_has cX1_has 2 (some .boolean), Cond.methodLink RX1 46 yX1_lesserStep, Cond.instanceMethod yX1_lesserStep, Cond.selects RX1 yX1_lesserStep yX1_lesserStep, Cond.code yX1_lesserStep cX1_lesserStep 7 (some .int), Cond.constant RX1 60 (1000000), Cond.methodLink RX1 56 yX1_throughStep, Cond.instanceMethod yX1_throughStep, Cond.selects RX1 yX1_throughStep yX1_throughStep, Cond.code yX1_throughStep cX1_throughStep 4 (some .int), Cond.methodLink RX1 32 yX1_costOf, Cond.instanceMethod yX1_costOf, Cond.selects RX1 yX1_costOf yX1_costOf, Cond.code yX1_costOf cX1_costOf 3 (some .int)]
def wsX1_leastCosts_r2 : List Cond := [Cond.fieldLink RX1 9 "BroadSheet$Grades" "costs" "[I", Cond.methodLink RX1 49 yX1_without, Cond.static yX1_without, Cond.code yX1_without cX1_without 2 (some .int), Cond.methodLink RX1 43 yX1_restOf, Cond.instanceMethod yX1_restOf, Cond.selects RX1 yX1_restOf yX1_restOf, Cond.code yX1_restOf cX1_restOf 3 (some .int), Cond.methodLink RX1 39 yX1_allBut, Cond.instanceMethod yX1_allBut, Cond.selects RX1 yX1_allBut yX1_allBut, Cond.code yX1_allBut cX1_allBut 2 (some .int)]
def wsX1_leastCosts : List Cond := .code yX1_leastCosts cX1_leastCosts 2 (some .int) :: ((wsX1_leastCosts_r1 ++ wsX1_leastCosts_r2) ++ wsX10)
def wsX1_stepOf_r1 : List Cond := [Cond.methodLink RX1 36 yX1_weighAll, Cond.instanceMethod yX1_weighAll, Cond.selects RX1 yX1_weighAll yX1_weighAll, Cond.initialized RX1, Cond.code yX1_weighAll cX1_weighAll 3 none, Cond.fieldLink RX1 28 "BroadSheet$Grades" "weighed" "Z", Cond.fieldLink RX1 24 "BroadSheet$Grades" "count" "I", Cond.fieldLink RX1 15 "BroadSheet$Grades" "rest" "[I", Cond.methodLink RX1 52 yX1_has, Cond.static yX1_has, Cond.code yX1_has cX1_has 2 (some .boolean), Cond.methodLink RX1 46 yX1_lesserStep, Cond.instanceMethod yX1_lesserStep, Cond.selects RX1 yX1_lesserStep yX1_lesserStep, Cond.code yX1_lesserStep cX1_lesserStep 7 (some .int), Cond.constant RX1 60 (1000000), Cond.methodLink RX1 56 yX1_throughStep, Cond.instanceMethod yX1_throughStep, Cond.selects RX1 yX1_throughStep yX1_throughStep, Cond.code yX1_throughStep cX1_throughStep 4 (some .int), Cond.methodLink RX1 32 yX1_costOf, Cond.instanceMethod yX1_costOf, Cond.selects RX1 yX1_costOf yX1_costOf, Cond.code yX1_costOf cX1_costOf 3 (some .int)]
def wsX1_stepOf_r2 : List Cond := [Cond.fieldLink RX1 9 "BroadSheet$Grades" "costs" "[I", Cond.methodLink RX1 49 yX1_without, Cond.static yX1_without, Cond.code yX1_without cX1_without 2 (some .int), Cond.methodLink RX1 43 yX1_restOf, Cond.instanceMethod yX1_restOf, Cond.selects RX1 yX1_restOf yX1_restOf, Cond.code yX1_restOf cX1_restOf 3 (some .int), Cond.methodLink RX1 39 yX1_allBut, Cond.instanceMethod yX1_allBut, Cond.selects RX1 yX1_allBut yX1_allBut, Cond.code yX1_allBut cX1_allBut 2 (some .int)]
def wsX1_stepOf : List Cond := .code yX1_stepOf cX1_stepOf 6 (some .int) :: ((wsX1_stepOf_r1 ++ wsX1_stepOf_r2) ++ wsX10)
def wsX2_init : List Cond := .code yX2_init cX2_init 1 none :: ([.methodLink RX2 3 objectInit, .instanceMethod objectInit, .code objectInit ⟨#[0xb1]⟩ 1 none, .arrayClass .int, .fieldLink RX2 9 "BroadSheet$Lips" "bases" "[I", .fieldLink RX2 15 "BroadSheet$Lips" "settings" "[I", .fieldLink RX2 18 "BroadSheet$Lips" "places" "I", .fieldLink RX2 22 "BroadSheet$Lips" "next" "I", .fieldLink RX2 25 "BroadSheet$Lips" "bend" "I", .fieldLink RX2 28 "BroadSheet$Lips" "main" "I", .fieldLink RX2 31 "BroadSheet$Lips" "rest" "[I"] ++ wsX20)
def wsX2_renew : List Cond := .code yX2_renew cX2_renew 2 none :: ([.fieldLink RX2 18 "BroadSheet$Lips" "places" "I", .fieldLink RX2 9 "BroadSheet$Lips" "bases" "[I", .fieldLink RX2 15 "BroadSheet$Lips" "settings" "[I", .methodLink RX2 34 yJ7_fill_53178, .static yJ7_fill_53178, .initialized RJ7, .code yJ7_fill_53178 cJ7_fill_53178 4 none] ++ wsX20)
def wsX2_places : List Cond := .code yX2_places cX2_places 1 (some .int) :: ([.fieldLink RX2 18 "BroadSheet$Lips" "places" "I"] ++ wsX20)
def wsX2_nextLaw : List Cond := .code yX2_nextLaw cX2_nextLaw 1 (some .int) :: ([.fieldLink RX2 22 "BroadSheet$Lips" "next" "I"] ++ wsX20)
def wsX2_bendLaw : List Cond := .code yX2_bendLaw cX2_bendLaw 1 (some .int) :: ([.fieldLink RX2 25 "BroadSheet$Lips" "bend" "I"] ++ wsX20)
def wsX2_mainSpread : List Cond := .code yX2_mainSpread cX2_mainSpread 1 (some .int) :: ([.fieldLink RX2 28 "BroadSheet$Lips" "main" "I"] ++ wsX20)
def wsX2_sideSpread : List Cond := .code yX2_sideSpread cX2_sideSpread 1 (some .int) :: ([.fieldLink RX2 40 "BroadSheet$Lips" "side" "I"] ++ wsX20)
def wsX2_baseOf : List Cond := .code yX2_baseOf cX2_baseOf 2 (some .int) :: ([.fieldLink RX2 9 "BroadSheet$Lips" "bases" "[I"] ++ wsX20)
def wsX2_settingOf : List Cond := .code yX2_settingOf cX2_settingOf 2 (some .int) :: ([.fieldLink RX2 15 "BroadSheet$Lips" "settings" "[I"] ++ wsX20)
def wsX2_putLaws : List Cond := .code yX2_putLaws cX2_putLaws 3 none :: ([.fieldLink RX2 22 "BroadSheet$Lips" "next" "I", .fieldLink RX2 25 "BroadSheet$Lips" "bend" "I"] ++ wsX20)
def wsX2_putSpread : List Cond := .code yX2_putSpread cX2_putSpread 3 none :: ([.fieldLink RX2 28 "BroadSheet$Lips" "main" "I", .fieldLink RX2 40 "BroadSheet$Lips" "side" "I"] ++ wsX20)
def wsX2_putBase : List Cond := .code yX2_putBase cX2_putBase 3 none :: ([.fieldLink RX2 9 "BroadSheet$Lips" "bases" "[I"] ++ wsX20)
def wsX2_isLawful : List Cond := .code yX2_isLawful cX2_isLawful 4 (some .boolean) :: ([.fieldLink RX2 18 "BroadSheet$Lips" "places" "I", .fieldLink RX2 15 "BroadSheet$Lips" "settings" "[I", .methodLink RX2 47 Lib.Math.abs.name, .static Lib.Math.abs.name, .initialized "java/lang/Math", .code Lib.Math.abs.name Lib.Math.abs.code 1 (some .int)] ++ wsX20)
def wsX2_trySetting : List Cond := .code yX2_trySetting cX2_trySetting 4 (some .boolean) :: ([.fieldLink RX2 15 "BroadSheet$Lips" "settings" "[I", .fieldLink RX2 22 "BroadSheet$Lips" "next" "I", .fieldLink RX2 25 "BroadSheet$Lips" "bend" "I", .methodLink RX2 43 yX2_isLawful, .instanceMethod yX2_isLawful, .selects RX2 yX2_isLawful yX2_isLawful, .initialized RX2, .code yX2_isLawful cX2_isLawful 4 (some .boolean), .fieldLink RX2 18 "BroadSheet$Lips" "places" "I", .methodLink RX2 47 Lib.Math.abs.name, .static Lib.Math.abs.name, .initialized "java/lang/Math", .code Lib.Math.abs.name Lib.Math.abs.code 1 (some .int)] ++ wsX20)
def wsX2_errorOf : List Cond := .code yX2_errorOf cX2_errorOf 3 (some .int) :: ([.fieldLink RX2 9 "BroadSheet$Lips" "bases" "[I", .fieldLink RX2 28 "BroadSheet$Lips" "main" "I", .fieldLink RX2 15 "BroadSheet$Lips" "settings" "[I", .fieldLink RX2 40 "BroadSheet$Lips" "side" "I", .fieldLink RX2 18 "BroadSheet$Lips" "places" "I"] ++ wsX20)
def wsX2_sizeOf : List Cond := .code yX2_sizeOf cX2_sizeOf 2 (some .int) :: ([.methodLink RX2 47 Lib.Math.abs.name, .static Lib.Math.abs.name, .initialized "java/lang/Math", .code Lib.Math.abs.name Lib.Math.abs.code 1 (some .int), .methodLink RX2 53 yX2_errorOf, .instanceMethod yX2_errorOf, .selects RX2 yX2_errorOf yX2_errorOf, .initialized RX2, .code yX2_errorOf cX2_errorOf 3 (some .int), .fieldLink RX2 9 "BroadSheet$Lips" "bases" "[I", .fieldLink RX2 28 "BroadSheet$Lips" "main" "I", .fieldLink RX2 15 "BroadSheet$Lips" "settings" "[I", .fieldLink RX2 40 "BroadSheet$Lips" "side" "I", .fieldLink RX2 18 "BroadSheet$Lips" "places" "I"] ++ wsX20)
def wsX2_together : List Cond := .code yX2_together cX2_together 3 (some .int) :: ([.methodLink RX2 63 Lib.Math.max.name, .static Lib.Math.max.name, .initialized "java/lang/Math", .code Lib.Math.max.name Lib.Math.max.code 2 (some .int)])
def wsX2_unevenness : List Cond := .code yX2_unevenness cX2_unevenness 4 (some .int) :: ([.fieldLink RX2 18 "BroadSheet$Lips" "places" "I", .methodLink RX2 56 yX2_sizeOf, .instanceMethod yX2_sizeOf, .selects RX2 yX2_sizeOf yX2_sizeOf, .initialized RX2, .code yX2_sizeOf cX2_sizeOf 2 (some .int), .methodLink RX2 47 Lib.Math.abs.name, .static Lib.Math.abs.name, .initialized "java/lang/Math", .code Lib.Math.abs.name Lib.Math.abs.code 1 (some .int), .methodLink RX2 53 yX2_errorOf, .instanceMethod yX2_errorOf, .selects RX2 yX2_errorOf yX2_errorOf, .code yX2_errorOf cX2_errorOf 3 (some .int), .fieldLink RX2 9 "BroadSheet$Lips" "bases" "[I", .fieldLink RX2 28 "BroadSheet$Lips" "main" "I", .fieldLink RX2 15 "BroadSheet$Lips" "settings" "[I", .fieldLink RX2 40 "BroadSheet$Lips" "side" "I", .methodLink RX2 59 yX2_together, .static yX2_together, .code yX2_together cX2_together 3 (some .int), .methodLink RX2 63 Lib.Math.max.name, .static Lib.Math.max.name, .code Lib.Math.max.name Lib.Math.max.code 2 (some .int)] ++ wsX20)
def wsX2_spot : List Cond := .code yX2_spot cX2_spot 3 (some .int) :: ([])
def wsX2_weighLast : List Cond := .code yX2_weighLast cX2_weighLast 4 none :: ([.fieldLink RX2 18 "BroadSheet$Lips" "places" "I", .fieldLink RX2 31 "BroadSheet$Lips" "rest" "[I", .fieldLink RX2 9 "BroadSheet$Lips" "bases" "[I", .fieldLink RX2 28 "BroadSheet$Lips" "main" "I", .fieldLink RX2 40 "BroadSheet$Lips" "side" "I", .methodLink RX2 47 Lib.Math.abs.name, .static Lib.Math.abs.name, .initialized "java/lang/Math", .code Lib.Math.abs.name Lib.Math.abs.code 1 (some .int), .methodLink RX2 82 yX2_spot, .static yX2_spot, .initialized RX2, .code yX2_spot cX2_spot 3 (some .int)] ++ wsX20)
def wsX2_highestAfter : List Cond := .code yX2_highestAfter cX2_highestAfter 3 (some .int) :: ([.fieldLink RX2 22 "BroadSheet$Lips" "next" "I", .fieldLink RX2 25 "BroadSheet$Lips" "bend" "I", .methodLink RX2 86 Lib.Math.min.name, .static Lib.Math.min.name, .initialized "java/lang/Math", .code Lib.Math.min.name Lib.Math.min.code 2 (some .int)] ++ wsX20)
def wsX2_lowestAfter : List Cond := .code yX2_lowestAfter cX2_lowestAfter 3 (some .int) :: ([.fieldLink RX2 22 "BroadSheet$Lips" "next" "I", .fieldLink RX2 25 "BroadSheet$Lips" "bend" "I", .methodLink RX2 63 Lib.Math.max.name, .static Lib.Math.max.name, .initialized "java/lang/Math", .code Lib.Math.max.name Lib.Math.max.code 2 (some .int)] ++ wsX20)
def wsX2_leastRest_r1 : List Cond := [Cond.constant RX2 92 (1000000), Cond.fieldLink RX2 9 "BroadSheet$Lips" "bases" "[I", Cond.fieldLink RX2 28 "BroadSheet$Lips" "main" "I", Cond.fieldLink RX2 40 "BroadSheet$Lips" "side" "I", Cond.fieldLink RX2 31 "BroadSheet$Lips" "rest" "[I", Cond.methodLink RX2 82 yX2_spot, Cond.static yX2_spot, Cond.initialized RX2, Cond.code yX2_spot cX2_spot 3 (some .int), Cond.methodLink RX2 93 yX2_highestAfter, Cond.instanceMethod yX2_highestAfter, Cond.selects RX2 yX2_highestAfter yX2_highestAfter, Cond.code yX2_highestAfter cX2_highestAfter 3 (some .int), Cond.fieldLink RX2 22 "BroadSheet$Lips" "next" "I", Cond.fieldLink RX2 25 "BroadSheet$Lips" "bend" "I", Cond.methodLink RX2 86 Lib.Math.min.name, Cond.static Lib.Math.min.name, Cond.initialized "java/lang/Math", Cond.code Lib.Math.min.name Lib.Math.min.code 2 (some .int), Cond.methodLink RX2 96 yX2_lowestAfter, Cond.instanceMethod yX2_lowestAfter, Cond.selects RX2 yX2_lowestAfter yX2_lowestAfter, Cond.code yX2_lowestAfter cX2_lowestAfter 3 (some .int), Cond.methodLink RX2 63 Lib.Math.max.name]
def wsX2_leastRest_r2 : List Cond := [Cond.static Lib.Math.max.name, Cond.code Lib.Math.max.name Lib.Math.max.code 2 (some .int)]
def wsX2_leastRest : List Cond := .code yX2_leastRest cX2_leastRest 14 (some .int) :: ((wsX2_leastRest_r1 ++ wsX2_leastRest_r2) ++ wsX20)
def wsX2_weigh_r1 : List Cond := [Cond.fieldLink RX2 22 "BroadSheet$Lips" "next" "I", Cond.methodLink RX2 63 Lib.Math.max.name, Cond.static Lib.Math.max.name, Cond.initialized "java/lang/Math", Cond.code Lib.Math.max.name Lib.Math.max.code 2 (some .int), Cond.methodLink RX2 86 Lib.Math.min.name, Cond.static Lib.Math.min.name, Cond.code Lib.Math.min.name Lib.Math.min.code 2 (some .int), Cond.fieldLink RX2 31 "BroadSheet$Lips" "rest" "[I", Cond.methodLink RX2 82 yX2_spot, Cond.static yX2_spot, Cond.initialized RX2, Cond.code yX2_spot cX2_spot 3 (some .int), Cond.methodLink RX2 89 yX2_leastRest, Cond.instanceMethod yX2_leastRest, Cond.selects RX2 yX2_leastRest yX2_leastRest, Cond.code yX2_leastRest cX2_leastRest 14 (some .int), Cond.constant RX2 92 (1000000), Cond.fieldLink RX2 9 "BroadSheet$Lips" "bases" "[I", Cond.fieldLink RX2 28 "BroadSheet$Lips" "main" "I", Cond.fieldLink RX2 40 "BroadSheet$Lips" "side" "I", Cond.methodLink RX2 93 yX2_highestAfter, Cond.instanceMethod yX2_highestAfter, Cond.selects RX2 yX2_highestAfter yX2_highestAfter]
def wsX2_weigh_r2 : List Cond := [Cond.code yX2_highestAfter cX2_highestAfter 3 (some .int), Cond.fieldLink RX2 25 "BroadSheet$Lips" "bend" "I", Cond.methodLink RX2 96 yX2_lowestAfter, Cond.instanceMethod yX2_lowestAfter, Cond.selects RX2 yX2_lowestAfter yX2_lowestAfter, Cond.code yX2_lowestAfter cX2_lowestAfter 3 (some .int)]
def wsX2_weigh : List Cond := .code yX2_weigh cX2_weigh 7 none :: ((wsX2_weigh_r1 ++ wsX2_weigh_r2) ++ wsX20)
def wsX2_settleFirstTwo : List Cond := .code yX2_settleFirstTwo cX2_settleFirstTwo 8 (some .int) :: ([.constant RX2 92 (1000000), .fieldLink RX2 22 "BroadSheet$Lips" "next" "I", .methodLink RX2 86 Lib.Math.min.name, .static Lib.Math.min.name, .initialized "java/lang/Math", .code Lib.Math.min.name Lib.Math.min.code 2 (some .int), .methodLink RX2 63 Lib.Math.max.name, .static Lib.Math.max.name, .code Lib.Math.max.name Lib.Math.max.code 2 (some .int), .fieldLink RX2 9 "BroadSheet$Lips" "bases" "[I", .fieldLink RX2 28 "BroadSheet$Lips" "main" "I", .fieldLink RX2 40 "BroadSheet$Lips" "side" "I", .methodLink RX2 47 Lib.Math.abs.name, .static Lib.Math.abs.name, .code Lib.Math.abs.name Lib.Math.abs.code 1 (some .int), .fieldLink RX2 31 "BroadSheet$Lips" "rest" "[I", .fieldLink RX2 15 "BroadSheet$Lips" "settings" "[I", .methodLink RX2 82 yX2_spot, .static yX2_spot, .initialized RX2, .code yX2_spot cX2_spot 3 (some .int), .methodLink RX2 59 yX2_together, .static yX2_together, .code yX2_together cX2_together 3 (some .int)] ++ wsX20)
def wsX2_lesserAfter_r1 : List Cond := [Cond.fieldLink RX2 15 "BroadSheet$Lips" "settings" "[I", Cond.fieldLink RX2 9 "BroadSheet$Lips" "bases" "[I", Cond.fieldLink RX2 28 "BroadSheet$Lips" "main" "I", Cond.fieldLink RX2 40 "BroadSheet$Lips" "side" "I", Cond.methodLink RX2 47 Lib.Math.abs.name, Cond.static Lib.Math.abs.name, Cond.initialized "java/lang/Math", Cond.code Lib.Math.abs.name Lib.Math.abs.code 1 (some .int), Cond.fieldLink RX2 31 "BroadSheet$Lips" "rest" "[I", Cond.methodLink RX2 82 yX2_spot, Cond.static yX2_spot, Cond.initialized RX2, Cond.code yX2_spot cX2_spot 3 (some .int), Cond.methodLink RX2 93 yX2_highestAfter, Cond.instanceMethod yX2_highestAfter, Cond.selects RX2 yX2_highestAfter yX2_highestAfter, Cond.code yX2_highestAfter cX2_highestAfter 3 (some .int), Cond.fieldLink RX2 22 "BroadSheet$Lips" "next" "I", Cond.fieldLink RX2 25 "BroadSheet$Lips" "bend" "I", Cond.methodLink RX2 86 Lib.Math.min.name, Cond.static Lib.Math.min.name, Cond.code Lib.Math.min.name Lib.Math.min.code 2 (some .int), Cond.methodLink RX2 96 yX2_lowestAfter, Cond.instanceMethod yX2_lowestAfter]
def wsX2_lesserAfter_r2 : List Cond := [Cond.selects RX2 yX2_lowestAfter yX2_lowestAfter, Cond.code yX2_lowestAfter cX2_lowestAfter 3 (some .int), Cond.methodLink RX2 63 Lib.Math.max.name, Cond.static Lib.Math.max.name, Cond.code Lib.Math.max.name Lib.Math.max.code 2 (some .int), Cond.methodLink RX2 59 yX2_together, Cond.static yX2_together, Cond.code yX2_together cX2_together 3 (some .int)]
def wsX2_lesserAfter : List Cond := .code yX2_lesserAfter cX2_lesserAfter 12 (some .int) :: ((wsX2_lesserAfter_r1 ++ wsX2_lesserAfter_r2) ++ wsX20)
def wsX2_settle_r1 : List Cond := [Cond.fieldLink RX2 18 "BroadSheet$Lips" "places" "I", Cond.fieldLink RX2 15 "BroadSheet$Lips" "settings" "[I", Cond.methodLink RX2 67 yX2_weighLast, Cond.instanceMethod yX2_weighLast, Cond.selects RX2 yX2_weighLast yX2_weighLast, Cond.initialized RX2, Cond.code yX2_weighLast cX2_weighLast 4 none, Cond.fieldLink RX2 31 "BroadSheet$Lips" "rest" "[I", Cond.fieldLink RX2 9 "BroadSheet$Lips" "bases" "[I", Cond.fieldLink RX2 28 "BroadSheet$Lips" "main" "I", Cond.fieldLink RX2 40 "BroadSheet$Lips" "side" "I", Cond.methodLink RX2 47 Lib.Math.abs.name, Cond.static Lib.Math.abs.name, Cond.initialized "java/lang/Math", Cond.code Lib.Math.abs.name Lib.Math.abs.code 1 (some .int), Cond.methodLink RX2 82 yX2_spot, Cond.static yX2_spot, Cond.code yX2_spot cX2_spot 3 (some .int), Cond.methodLink RX2 70 yX2_weigh, Cond.instanceMethod yX2_weigh, Cond.selects RX2 yX2_weigh yX2_weigh, Cond.code yX2_weigh cX2_weigh 7 none, Cond.fieldLink RX2 22 "BroadSheet$Lips" "next" "I", Cond.methodLink RX2 63 Lib.Math.max.name]
def wsX2_settle_r2 : List Cond := [Cond.static Lib.Math.max.name, Cond.code Lib.Math.max.name Lib.Math.max.code 2 (some .int), Cond.methodLink RX2 86 Lib.Math.min.name, Cond.static Lib.Math.min.name, Cond.code Lib.Math.min.name Lib.Math.min.code 2 (some .int), Cond.methodLink RX2 89 yX2_leastRest, Cond.instanceMethod yX2_leastRest, Cond.selects RX2 yX2_leastRest yX2_leastRest, Cond.code yX2_leastRest cX2_leastRest 14 (some .int), Cond.constant RX2 92 (1000000), Cond.methodLink RX2 93 yX2_highestAfter, Cond.instanceMethod yX2_highestAfter, Cond.selects RX2 yX2_highestAfter yX2_highestAfter, Cond.code yX2_highestAfter cX2_highestAfter 3 (some .int), Cond.fieldLink RX2 25 "BroadSheet$Lips" "bend" "I", Cond.methodLink RX2 96 yX2_lowestAfter, Cond.instanceMethod yX2_lowestAfter, Cond.selects RX2 yX2_lowestAfter yX2_lowestAfter, Cond.code yX2_lowestAfter cX2_lowestAfter 3 (some .int), Cond.methodLink RX2 74 yX2_settleFirstTwo, Cond.instanceMethod yX2_settleFirstTwo, Cond.selects RX2 yX2_settleFirstTwo yX2_settleFirstTwo, Cond.code yX2_settleFirstTwo cX2_settleFirstTwo 8 (some .int), Cond.methodLink RX2 59 yX2_together]
def wsX2_settle_r3 : List Cond := [Cond.static yX2_together, Cond.code yX2_together cX2_together 3 (some .int), Cond.methodLink RX2 56 yX2_sizeOf, Cond.instanceMethod yX2_sizeOf, Cond.selects RX2 yX2_sizeOf yX2_sizeOf, Cond.code yX2_sizeOf cX2_sizeOf 2 (some .int), Cond.methodLink RX2 53 yX2_errorOf, Cond.instanceMethod yX2_errorOf, Cond.selects RX2 yX2_errorOf yX2_errorOf, Cond.code yX2_errorOf cX2_errorOf 3 (some .int), Cond.methodLink RX2 78 yX2_lesserAfter, Cond.instanceMethod yX2_lesserAfter, Cond.selects RX2 yX2_lesserAfter yX2_lesserAfter, Cond.code yX2_lesserAfter cX2_lesserAfter 12 (some .int)]
def wsX2_settle : List Cond := .code yX2_settle cX2_settle 5 (some .int) :: ((wsX2_settle_r1 ++ (wsX2_settle_r2 ++ wsX2_settle_r3)) ++ wsX20)
def wsX3_init : List Cond := .code yX3_init cX3_init 2 none :: ([.methodLink RX3 3 objectInit, .instanceMethod objectInit, .code objectInit ⟨#[0xb1]⟩ 1 none, .arrayClass .int, .fieldLink RX3 9 "BroadSheet$Sets" "widths" "[I", .fieldLink RX3 15 "BroadSheet$Sets" "prices" "[I", .fieldLink RX3 18 "BroadSheet$Sets" "bounds" "[I", .fieldLink RX3 21 "BroadSheet$Sets" "worth" "[I", .fieldLink RX3 24 "BroadSheet$Sets" "begins" "[I", .fieldLink RX3 27 "BroadSheet$Sets" "lips" "LBroadSheet$Lips;"] ++ wsX30)
def wsX3_forget : List Cond := .code yX3_forget cX3_forget 1 none :: ([.fieldLink RX3 31 "BroadSheet$Sets" "count" "I"] ++ wsX30)
def wsX3_count : List Cond := .code yX3_count cX3_count 1 (some .int) :: ([.fieldLink RX3 31 "BroadSheet$Sets" "count" "I"] ++ wsX30)
def wsX3_add : List Cond := .code yX3_add cX3_add 4 (some .int) :: ([.fieldLink RX3 9 "BroadSheet$Sets" "widths" "[I", .fieldLink RX3 31 "BroadSheet$Sets" "count" "I", .fieldLink RX3 15 "BroadSheet$Sets" "prices" "[I", .fieldLink RX3 18 "BroadSheet$Sets" "bounds" "[I"] ++ wsX30)
def wsX3_lies_r1 : List Cond := [Cond.fieldLink RX3 9 "BroadSheet$Sets" "widths" "[I", Cond.fieldLink RX3 27 "BroadSheet$Sets" "lips" "LBroadSheet$Lips;", Cond.fieldLink RX3 18 "BroadSheet$Sets" "bounds" "[I", Cond.methodLink RX3 35 yX2_places, Cond.instanceMethod yX2_places, Cond.selects RX2 yX2_places yX2_places, Cond.initialized RX2, Cond.code yX2_places cX2_places 1 (some .int), Cond.fieldLink RX2 18 "BroadSheet$Lips" "places" "I", Cond.methodLink RX3 41 yX2_sizeOf, Cond.instanceMethod yX2_sizeOf, Cond.selects RX2 yX2_sizeOf yX2_sizeOf, Cond.code yX2_sizeOf cX2_sizeOf 2 (some .int), Cond.methodLink RX2 47 Lib.Math.abs.name, Cond.static Lib.Math.abs.name, Cond.initialized "java/lang/Math", Cond.code Lib.Math.abs.name Lib.Math.abs.code 1 (some .int), Cond.methodLink RX2 53 yX2_errorOf, Cond.instanceMethod yX2_errorOf, Cond.selects RX2 yX2_errorOf yX2_errorOf, Cond.code yX2_errorOf cX2_errorOf 3 (some .int), Cond.fieldLink RX2 9 "BroadSheet$Lips" "bases" "[I", Cond.fieldLink RX2 28 "BroadSheet$Lips" "main" "I", Cond.fieldLink RX2 15 "BroadSheet$Lips" "settings" "[I"]
def wsX3_lies_r2 : List Cond := [Cond.fieldLink RX2 40 "BroadSheet$Lips" "side" "I"]
def wsX3_lies : List Cond := .code yX3_lies cX3_lies 5 (some .boolean) :: ((wsX3_lies_r1 ++ wsX3_lies_r2) ++ wsX30 ++ wsX20)
def wsX3_weigh_r1 : List Cond := [Cond.fieldLink RX3 21 "BroadSheet$Sets" "worth" "[I", Cond.fieldLink RX3 31 "BroadSheet$Sets" "count" "I", Cond.fieldLink RX3 15 "BroadSheet$Sets" "prices" "[I", Cond.fieldLink RX3 9 "BroadSheet$Sets" "widths" "[I", Cond.fieldLink RX3 24 "BroadSheet$Sets" "begins" "[I", Cond.methodLink RX3 52 yX3_lies, Cond.instanceMethod yX3_lies, Cond.selects RX3 yX3_lies yX3_lies, Cond.initialized RX3, Cond.code yX3_lies cX3_lies 5 (some .boolean), Cond.fieldLink RX3 27 "BroadSheet$Sets" "lips" "LBroadSheet$Lips;", Cond.fieldLink RX3 18 "BroadSheet$Sets" "bounds" "[I", Cond.methodLink RX3 35 yX2_places, Cond.instanceMethod yX2_places, Cond.selects RX2 yX2_places yX2_places, Cond.initialized RX2, Cond.code yX2_places cX2_places 1 (some .int), Cond.fieldLink RX2 18 "BroadSheet$Lips" "places" "I", Cond.methodLink RX3 41 yX2_sizeOf, Cond.instanceMethod yX2_sizeOf, Cond.selects RX2 yX2_sizeOf yX2_sizeOf, Cond.code yX2_sizeOf cX2_sizeOf 2 (some .int), Cond.methodLink RX2 47 Lib.Math.abs.name, Cond.static Lib.Math.abs.name]
def wsX3_weigh_r2 : List Cond := [Cond.initialized "java/lang/Math", Cond.code Lib.Math.abs.name Lib.Math.abs.code 1 (some .int), Cond.methodLink RX2 53 yX2_errorOf, Cond.instanceMethod yX2_errorOf, Cond.selects RX2 yX2_errorOf yX2_errorOf, Cond.code yX2_errorOf cX2_errorOf 3 (some .int), Cond.fieldLink RX2 9 "BroadSheet$Lips" "bases" "[I", Cond.fieldLink RX2 28 "BroadSheet$Lips" "main" "I", Cond.fieldLink RX2 15 "BroadSheet$Lips" "settings" "[I", Cond.fieldLink RX2 40 "BroadSheet$Lips" "side" "I"]
def wsX3_weigh : List Cond := .code yX3_weigh cX3_weigh 6 none :: ((wsX3_weigh_r1 ++ wsX3_weigh_r2) ++ wsX30 ++ wsX20)
def wsX3_dropCovered : List Cond := .code yX3_dropCovered cX3_dropCovered 4 none :: ([.fieldLink RX3 24 "BroadSheet$Sets" "begins" "[I", .fieldLink RX3 9 "BroadSheet$Sets" "widths" "[I"] ++ wsX30)
def wsX3_plan_r1 : List Cond := [Cond.fieldLink RX3 27 "BroadSheet$Sets" "lips" "LBroadSheet$Lips;", Cond.fieldLink RX3 21 "BroadSheet$Sets" "worth" "[I", Cond.methodLink RX3 35 yX2_places, Cond.instanceMethod yX2_places, Cond.selects RX2 yX2_places yX2_places, Cond.initialized RX2, Cond.code yX2_places cX2_places 1 (some .int), Cond.fieldLink RX2 18 "BroadSheet$Lips" "places" "I", Cond.methodLink RX3 45 yX3_weigh, Cond.instanceMethod yX3_weigh, Cond.selects RX3 yX3_weigh yX3_weigh, Cond.initialized RX3, Cond.code yX3_weigh cX3_weigh 6 none, Cond.fieldLink RX3 31 "BroadSheet$Sets" "count" "I", Cond.fieldLink RX3 15 "BroadSheet$Sets" "prices" "[I", Cond.fieldLink RX3 9 "BroadSheet$Sets" "widths" "[I", Cond.fieldLink RX3 24 "BroadSheet$Sets" "begins" "[I", Cond.methodLink RX3 52 yX3_lies, Cond.instanceMethod yX3_lies, Cond.selects RX3 yX3_lies yX3_lies, Cond.code yX3_lies cX3_lies 5 (some .boolean), Cond.fieldLink RX3 18 "BroadSheet$Sets" "bounds" "[I", Cond.methodLink RX3 41 yX2_sizeOf, Cond.instanceMethod yX2_sizeOf]
def wsX3_plan_r2 : List Cond := [Cond.selects RX2 yX2_sizeOf yX2_sizeOf, Cond.code yX2_sizeOf cX2_sizeOf 2 (some .int), Cond.methodLink RX2 47 Lib.Math.abs.name, Cond.static Lib.Math.abs.name, Cond.initialized "java/lang/Math", Cond.code Lib.Math.abs.name Lib.Math.abs.code 1 (some .int), Cond.methodLink RX2 53 yX2_errorOf, Cond.instanceMethod yX2_errorOf, Cond.selects RX2 yX2_errorOf yX2_errorOf, Cond.code yX2_errorOf cX2_errorOf 3 (some .int), Cond.fieldLink RX2 9 "BroadSheet$Lips" "bases" "[I", Cond.fieldLink RX2 28 "BroadSheet$Lips" "main" "I", Cond.fieldLink RX2 15 "BroadSheet$Lips" "settings" "[I", Cond.fieldLink RX2 40 "BroadSheet$Lips" "side" "I", Cond.methodLink RX3 49 yX3_dropCovered, Cond.instanceMethod yX3_dropCovered, Cond.selects RX3 yX3_dropCovered yX3_dropCovered, Cond.code yX3_dropCovered cX3_dropCovered 4 none]
def wsX3_plan : List Cond := .code yX3_plan cX3_plan 3 (some .int) :: ((wsX3_plan_r1 ++ wsX3_plan_r2) ++ wsX30 ++ wsX20)
def wsX3_plannedAt : List Cond := .code yX3_plannedAt cX3_plannedAt 2 (some .int) :: ([.fieldLink RX3 24 "BroadSheet$Sets" "begins" "[I"] ++ wsX30)
def wsX4_init_r1 : List Cond := [Cond.methodLink RX4 1 objectInit, Cond.instanceMethod objectInit, Cond.code objectInit ⟨#[0xb1]⟩ 1 none, Cond.classLink RX4 7 RX0, Cond.instantiable RX0 8, Cond.initialized RX0, Cond.fieldLink RX4 10 "BroadSheet" "eye" "LBroadSheet$Eye;", Cond.classLink RX4 16 RX2, Cond.instantiable RX2 8, Cond.initialized RX2, Cond.fieldLink RX4 19 "BroadSheet" "lips" "LBroadSheet$Lips;", Cond.classLink RX4 23 RX3, Cond.instantiable RX3 7, Cond.initialized RX3, Cond.fieldLink RX4 28 "BroadSheet" "sets" "LBroadSheet$Sets;", Cond.classLink RX4 32 RX1, Cond.instantiable RX1 4, Cond.initialized RX1, Cond.fieldLink RX4 35 "BroadSheet" "grades" "LBroadSheet$Grades;", Cond.methodLink RX4 9 yX0_init, Cond.instanceMethod yX0_init, Cond.code yX0_init cX0_init 1 none, Cond.methodLink RX0 3 objectInit, Cond.arrayClass .int]
def wsX4_init_r2 : List Cond := [Cond.fieldLink RX0 9 "BroadSheet$Eye" "times" "[I", Cond.fieldLink RX0 15 "BroadSheet$Eye" "places" "[I", Cond.fieldLink RX0 18 "BroadSheet$Eye" "values" "[I", Cond.arrayClass .boolean, Cond.fieldLink RX0 21 "BroadSheet$Eye" "fitting" "[Z", Cond.fieldLink RX0 25 "BroadSheet$Eye" "group" "[I", Cond.fieldLink RX0 28 "BroadSheet$Eye" "height" "[I", Cond.methodLink RX0 31 yX0_forget, Cond.instanceMethod yX0_forget, Cond.selects RX0 yX0_forget yX0_forget, Cond.code yX0_forget cX0_forget 2 none, Cond.fieldLink RX0 34 "BroadSheet$Eye" "count" "I", Cond.fieldLink RX0 38 "BroadSheet$Eye" "fittingCount" "I", Cond.methodLink RX4 18 yX2_init, Cond.instanceMethod yX2_init, Cond.code yX2_init cX2_init 1 none, Cond.methodLink RX2 3 objectInit, Cond.fieldLink RX2 9 "BroadSheet$Lips" "bases" "[I", Cond.fieldLink RX2 15 "BroadSheet$Lips" "settings" "[I", Cond.fieldLink RX2 18 "BroadSheet$Lips" "places" "I", Cond.fieldLink RX2 22 "BroadSheet$Lips" "next" "I", Cond.fieldLink RX2 25 "BroadSheet$Lips" "bend" "I", Cond.fieldLink RX2 28 "BroadSheet$Lips" "main" "I", Cond.fieldLink RX2 31 "BroadSheet$Lips" "rest" "[I"]
def wsX4_init_r3 : List Cond := [Cond.methodLink RX4 25 yX3_init, Cond.instanceMethod yX3_init, Cond.code yX3_init cX3_init 2 none, Cond.methodLink RX3 3 objectInit, Cond.fieldLink RX3 9 "BroadSheet$Sets" "widths" "[I", Cond.fieldLink RX3 15 "BroadSheet$Sets" "prices" "[I", Cond.fieldLink RX3 18 "BroadSheet$Sets" "bounds" "[I", Cond.fieldLink RX3 21 "BroadSheet$Sets" "worth" "[I", Cond.fieldLink RX3 24 "BroadSheet$Sets" "begins" "[I", Cond.fieldLink RX3 27 "BroadSheet$Sets" "lips" "LBroadSheet$Lips;", Cond.methodLink RX4 34 yX1_init, Cond.instanceMethod yX1_init, Cond.code yX1_init cX1_init 1 none, Cond.methodLink RX1 3 objectInit, Cond.fieldLink RX1 9 "BroadSheet$Grades" "costs" "[I", Cond.fieldLink RX1 15 "BroadSheet$Grades" "rest" "[I", Cond.methodLink RX1 18 yJ7_fill_53178, Cond.static yJ7_fill_53178, Cond.initialized RJ7, Cond.code yJ7_fill_53178 cJ7_fill_53178 4 none]
def wsX4_init : List Cond := .code yX4_init cX4_init 1 none :: ((wsX4_init_r1 ++ (wsX4_init_r2 ++ wsX4_init_r3)) ++ wsX00 ++ wsX40 ++ wsX20 ++ wsX30 ++ wsX10)
def wsX4_within : List Cond := .code yX4_within cX4_within 3 (some .boolean) :: ([])
def wsX4_sheet_r1 : List Cond := [Cond.fieldLink RX4 19 "BroadSheet" "lips" "LBroadSheet$Lips;", Cond.fieldLink RX4 10 "BroadSheet" "eye" "LBroadSheet$Eye;", Cond.fieldLink RX4 28 "BroadSheet" "sets" "LBroadSheet$Sets;", Cond.methodLink RX4 39 yX4_within, Cond.static yX4_within, Cond.initialized RX4, Cond.code yX4_within cX4_within 3 (some .boolean), Cond.methodLink RX4 43 yX2_places, Cond.instanceMethod yX2_places, Cond.selects RX2 yX2_places yX2_places, Cond.initialized RX2, Cond.code yX2_places cX2_places 1 (some .int), Cond.fieldLink RX2 18 "BroadSheet$Lips" "places" "I", Cond.methodLink RX4 47 yX0_forget, Cond.instanceMethod yX0_forget, Cond.selects RX0 yX0_forget yX0_forget, Cond.initialized RX0, Cond.code yX0_forget cX0_forget 2 none, Cond.fieldLink RX0 34 "BroadSheet$Eye" "count" "I", Cond.fieldLink RX0 38 "BroadSheet$Eye" "fittingCount" "I", Cond.fieldLink RX0 25 "BroadSheet$Eye" "group" "[I", Cond.fieldLink RX0 28 "BroadSheet$Eye" "height" "[I", Cond.methodLink RX4 50 yX3_forget, Cond.instanceMethod yX3_forget]
def wsX4_sheet_r2 : List Cond := [Cond.selects RX3 yX3_forget yX3_forget, Cond.initialized RX3, Cond.code yX3_forget cX3_forget 1 none, Cond.fieldLink RX3 31 "BroadSheet$Sets" "count" "I", Cond.methodLink RX4 51 yX2_renew, Cond.instanceMethod yX2_renew, Cond.selects RX2 yX2_renew yX2_renew, Cond.code yX2_renew cX2_renew 2 none, Cond.fieldLink RX2 9 "BroadSheet$Lips" "bases" "[I", Cond.fieldLink RX2 15 "BroadSheet$Lips" "settings" "[I", Cond.methodLink RX2 34 yJ7_fill_53178, Cond.static yJ7_fill_53178, Cond.initialized RJ7, Cond.code yJ7_fill_53178 cJ7_fill_53178 4 none]
def wsX4_sheet : List Cond := .code yX4_sheet cX4_sheet 3 (some .int) :: ((wsX4_sheet_r1 ++ wsX4_sheet_r2) ++ wsX40 ++ wsX20 ++ wsX00 ++ wsX30)
def wsX4_isPlace : List Cond := .code yX4_isPlace cX4_isPlace 2 (some .boolean) :: ([.fieldLink RX4 19 "BroadSheet" "lips" "LBroadSheet$Lips;", .methodLink RX4 43 yX2_places, .instanceMethod yX2_places, .selects RX2 yX2_places yX2_places, .initialized RX2, .code yX2_places cX2_places 1 (some .int), .fieldLink RX2 18 "BroadSheet$Lips" "places" "I", .methodLink RX4 39 yX4_within, .static yX4_within, .initialized RX4, .code yX4_within cX4_within 3 (some .boolean)] ++ wsX40 ++ wsX20)
def wsX4_isTime : List Cond := .code yX4_isTime cX4_isTime 1 (some .boolean) :: ([.methodLink RX4 39 yX4_within, .static yX4_within, .initialized RX4, .code yX4_within cX4_within 3 (some .boolean)])
def wsX4_read_r1 : List Cond := [Cond.fieldLink RX4 10 "BroadSheet" "eye" "LBroadSheet$Eye;", Cond.methodLink RX4 55 yX4_isPlace, Cond.instanceMethod yX4_isPlace, Cond.selects RX4 yX4_isPlace yX4_isPlace, Cond.initialized RX4, Cond.code yX4_isPlace cX4_isPlace 2 (some .boolean), Cond.fieldLink RX4 19 "BroadSheet" "lips" "LBroadSheet$Lips;", Cond.methodLink RX4 43 yX2_places, Cond.instanceMethod yX2_places, Cond.selects RX2 yX2_places yX2_places, Cond.initialized RX2, Cond.code yX2_places cX2_places 1 (some .int), Cond.fieldLink RX2 18 "BroadSheet$Lips" "places" "I", Cond.methodLink RX4 39 yX4_within, Cond.static yX4_within, Cond.code yX4_within cX4_within 3 (some .boolean), Cond.methodLink RX4 59 yX4_isTime, Cond.static yX4_isTime, Cond.code yX4_isTime cX4_isTime 1 (some .boolean), Cond.methodLink RX4 62 yX0_count, Cond.instanceMethod yX0_count, Cond.selects RX0 yX0_count yX0_count, Cond.initialized RX0, Cond.code yX0_count cX0_count 1 (some .int)]
def wsX4_read_r2 : List Cond := [Cond.fieldLink RX0 34 "BroadSheet$Eye" "count" "I", Cond.methodLink RX4 65 yX0_add, Cond.instanceMethod yX0_add, Cond.selects RX0 yX0_add yX0_add, Cond.code yX0_add cX0_add 5 (some .boolean), Cond.fieldLink RX0 9 "BroadSheet$Eye" "times" "[I", Cond.fieldLink RX0 15 "BroadSheet$Eye" "places" "[I", Cond.fieldLink RX0 18 "BroadSheet$Eye" "values" "[I", Cond.fieldLink RX0 21 "BroadSheet$Eye" "fitting" "[Z", Cond.fieldLink RX0 38 "BroadSheet$Eye" "fittingCount" "I", Cond.methodLink RX0 41 yX0_knotOfTime, Cond.static yX0_knotOfTime, Cond.code yX0_knotOfTime cX0_knotOfTime 1 (some .int), Cond.methodLink RX0 45 yX0_fit, Cond.instanceMethod yX0_fit, Cond.selects RX0 yX0_fit yX0_fit, Cond.code yX0_fit cX0_fit 8 (some .boolean), Cond.fieldLink RX0 25 "BroadSheet$Eye" "group" "[I", Cond.fieldLink RX0 28 "BroadSheet$Eye" "height" "[I"]
def wsX4_read : List Cond := .code yX4_read cX4_read 4 (some .int) :: ((wsX4_read_r1 ++ wsX4_read_r2) ++ wsX40 ++ wsX20 ++ wsX00)
def wsX4_reading_r1 : List Cond := [Cond.fieldLink RX4 10 "BroadSheet" "eye" "LBroadSheet$Eye;", Cond.constant RX4 68 (-1000001), Cond.constant RX4 82 (-1000002), Cond.methodLink RX4 62 yX0_count, Cond.instanceMethod yX0_count, Cond.selects RX0 yX0_count yX0_count, Cond.initialized RX0, Cond.code yX0_count cX0_count 1 (some .int), Cond.fieldLink RX0 34 "BroadSheet$Eye" "count" "I", Cond.methodLink RX4 39 yX4_within, Cond.static yX4_within, Cond.initialized RX4, Cond.code yX4_within cX4_within 3 (some .boolean), Cond.methodLink RX4 69 yX0_timeOf, Cond.instanceMethod yX0_timeOf, Cond.selects RX0 yX0_timeOf yX0_timeOf, Cond.code yX0_timeOf cX0_timeOf 2 (some .int), Cond.fieldLink RX0 9 "BroadSheet$Eye" "times" "[I", Cond.methodLink RX4 73 yX0_placeOf, Cond.instanceMethod yX0_placeOf, Cond.selects RX0 yX0_placeOf yX0_placeOf, Cond.code yX0_placeOf cX0_placeOf 2 (some .int), Cond.fieldLink RX0 15 "BroadSheet$Eye" "places" "[I", Cond.methodLink RX4 76 yX0_valueOf]
def wsX4_reading_r2 : List Cond := [Cond.instanceMethod yX0_valueOf, Cond.selects RX0 yX0_valueOf yX0_valueOf, Cond.code yX0_valueOf cX0_valueOf 2 (some .int), Cond.fieldLink RX0 18 "BroadSheet$Eye" "values" "[I", Cond.methodLink RX4 79 yX0_isFitting, Cond.instanceMethod yX0_isFitting, Cond.selects RX0 yX0_isFitting yX0_isFitting, Cond.code yX0_isFitting cX0_isFitting 2 (some .boolean), Cond.fieldLink RX0 21 "BroadSheet$Eye" "fitting" "[Z"]
def wsX4_reading : List Cond := .code yX4_reading cX4_reading 3 (some .int) :: ((wsX4_reading_r1 ++ wsX4_reading_r2) ++ wsX40 ++ wsX00)
def wsX4_across_r1 : List Cond := [Cond.constant RX4 68 (-1000001), Cond.fieldLink RX4 10 "BroadSheet" "eye" "LBroadSheet$Eye;", Cond.constant RX4 89 (-1000005), Cond.methodLink RX4 55 yX4_isPlace, Cond.instanceMethod yX4_isPlace, Cond.selects RX4 yX4_isPlace yX4_isPlace, Cond.initialized RX4, Cond.code yX4_isPlace cX4_isPlace 2 (some .boolean), Cond.fieldLink RX4 19 "BroadSheet" "lips" "LBroadSheet$Lips;", Cond.methodLink RX4 43 yX2_places, Cond.instanceMethod yX2_places, Cond.selects RX2 yX2_places yX2_places, Cond.initialized RX2, Cond.code yX2_places cX2_places 1 (some .int), Cond.fieldLink RX2 18 "BroadSheet$Lips" "places" "I", Cond.methodLink RX4 39 yX4_within, Cond.static yX4_within, Cond.code yX4_within cX4_within 3 (some .boolean), Cond.methodLink RX4 83 yX0_hasAcross, Cond.instanceMethod yX0_hasAcross, Cond.selects RX0 yX0_hasAcross yX0_hasAcross, Cond.initialized RX0, Cond.code yX0_hasAcross cX0_hasAcross 2 (some .boolean), Cond.fieldLink RX0 25 "BroadSheet$Eye" "group" "[I"]
def wsX4_across_r2 : List Cond := [Cond.methodLink RX4 86 yX0_acrossOf, Cond.instanceMethod yX0_acrossOf, Cond.selects RX0 yX0_acrossOf yX0_acrossOf, Cond.code yX0_acrossOf cX0_acrossOf 2 (some .int), Cond.fieldLink RX0 28 "BroadSheet$Eye" "height" "[I"]
def wsX4_across : List Cond := .code yX4_across cX4_across 2 (some .int) :: ((wsX4_across_r1 ++ wsX4_across_r2) ++ wsX40 ++ wsX20 ++ wsX00)
def wsX4_along : List Cond := .code yX4_along cX4_along 3 (some .int) :: ([.constant RX4 68 (-1000001), .fieldLink RX4 10 "BroadSheet" "eye" "LBroadSheet$Eye;", .constant RX4 89 (-1000005), .methodLink RX4 59 yX4_isTime, .static yX4_isTime, .initialized RX4, .code yX4_isTime cX4_isTime 1 (some .boolean), .methodLink RX4 39 yX4_within, .static yX4_within, .code yX4_within cX4_within 3 (some .boolean), .methodLink RX4 90 yX0_timesHangTogether, .instanceMethod yX0_timesHangTogether, .selects RX0 yX0_timesHangTogether yX0_timesHangTogether, .initialized RX0, .code yX0_timesHangTogether cX0_timesHangTogether 3 (some .boolean), .fieldLink RX0 25 "BroadSheet$Eye" "group" "[I", .methodLink RX0 41 yX0_knotOfTime, .static yX0_knotOfTime, .code yX0_knotOfTime cX0_knotOfTime 1 (some .int), .methodLink RX4 94 yX0_moreAlong, .instanceMethod yX0_moreAlong, .selects RX0 yX0_moreAlong yX0_moreAlong, .code yX0_moreAlong cX0_moreAlong 3 (some .int), .fieldLink RX0 28 "BroadSheet$Eye" "height" "[I"] ++ wsX40 ++ wsX00)
def wsX4_groups : List Cond := .code yX4_groups cX4_groups 1 (some .int) :: ([.fieldLink RX4 10 "BroadSheet" "eye" "LBroadSheet$Eye;", .fieldLink RX4 19 "BroadSheet" "lips" "LBroadSheet$Lips;", .methodLink RX4 43 yX2_places, .instanceMethod yX2_places, .selects RX2 yX2_places yX2_places, .initialized RX2, .code yX2_places cX2_places 1 (some .int), .fieldLink RX2 18 "BroadSheet$Lips" "places" "I", .methodLink RX4 98 yX0_countGroups, .instanceMethod yX0_countGroups, .selects RX0 yX0_countGroups yX0_countGroups, .initialized RX0, .code yX0_countGroups cX0_countGroups 4 (some .int), .methodLink RX0 49 yX0_isFirstOfGroup, .instanceMethod yX0_isFirstOfGroup, .selects RX0 yX0_isFirstOfGroup yX0_isFirstOfGroup, .code yX0_isFirstOfGroup cX0_isFirstOfGroup 3 (some .boolean), .fieldLink RX0 25 "BroadSheet$Eye" "group" "[I"] ++ wsX40 ++ wsX20 ++ wsX00)
def wsX4_take_r1 : List Cond := [Cond.fieldLink RX4 19 "BroadSheet" "lips" "LBroadSheet$Lips;", Cond.fieldLink RX4 10 "BroadSheet" "eye" "LBroadSheet$Eye;", Cond.methodLink RX4 43 yX2_places, Cond.instanceMethod yX2_places, Cond.selects RX2 yX2_places yX2_places, Cond.initialized RX2, Cond.code yX2_places cX2_places 1 (some .int), Cond.fieldLink RX2 18 "BroadSheet$Lips" "places" "I", Cond.methodLink RX4 83 yX0_hasAcross, Cond.instanceMethod yX0_hasAcross, Cond.selects RX0 yX0_hasAcross yX0_hasAcross, Cond.initialized RX0, Cond.code yX0_hasAcross cX0_hasAcross 2 (some .boolean), Cond.fieldLink RX0 25 "BroadSheet$Eye" "group" "[I", Cond.methodLink RX4 86 yX0_acrossOf, Cond.instanceMethod yX0_acrossOf, Cond.selects RX0 yX0_acrossOf yX0_acrossOf, Cond.code yX0_acrossOf cX0_acrossOf 2 (some .int), Cond.fieldLink RX0 28 "BroadSheet$Eye" "height" "[I", Cond.methodLink RX4 39 yX4_within, Cond.static yX4_within, Cond.initialized RX4, Cond.code yX4_within cX4_within 3 (some .boolean), Cond.methodLink RX4 101 yX2_putBase]
def wsX4_take_r2 : List Cond := [Cond.instanceMethod yX2_putBase, Cond.selects RX2 yX2_putBase yX2_putBase, Cond.code yX2_putBase cX2_putBase 3 none, Cond.fieldLink RX2 9 "BroadSheet$Lips" "bases" "[I"]
def wsX4_take : List Cond := .code yX4_take cX4_take 3 (some .int) :: ((wsX4_take_r1 ++ wsX4_take_r2) ++ wsX40 ++ wsX20 ++ wsX00)
def wsX4_clear : List Cond := .code yX4_clear cX4_clear 2 (some .int) :: ([.fieldLink RX4 10 "BroadSheet" "eye" "LBroadSheet$Eye;", .methodLink RX4 62 yX0_count, .instanceMethod yX0_count, .selects RX0 yX0_count yX0_count, .initialized RX0, .code yX0_count cX0_count 1 (some .int), .fieldLink RX0 34 "BroadSheet$Eye" "count" "I", .methodLink RX4 47 yX0_forget, .instanceMethod yX0_forget, .selects RX0 yX0_forget yX0_forget, .code yX0_forget cX0_forget 2 none, .fieldLink RX0 38 "BroadSheet$Eye" "fittingCount" "I", .fieldLink RX0 25 "BroadSheet$Eye" "group" "[I", .fieldLink RX0 28 "BroadSheet$Eye" "height" "[I"] ++ wsX40 ++ wsX00)
def wsX4_laws : List Cond := .code yX4_laws cX4_laws 3 (some .int) :: ([.fieldLink RX4 19 "BroadSheet" "lips" "LBroadSheet$Lips;", .methodLink RX4 39 yX4_within, .static yX4_within, .initialized RX4, .code yX4_within cX4_within 3 (some .boolean), .methodLink RX4 105 yX2_isLawful, .instanceMethod yX2_isLawful, .selects RX2 yX2_isLawful yX2_isLawful, .initialized RX2, .code yX2_isLawful cX2_isLawful 4 (some .boolean), .fieldLink RX2 18 "BroadSheet$Lips" "places" "I", .fieldLink RX2 15 "BroadSheet$Lips" "settings" "[I", .methodLink RX2 47 Lib.Math.abs.name, .static Lib.Math.abs.name, .initialized "java/lang/Math", .code Lib.Math.abs.name Lib.Math.abs.code 1 (some .int), .methodLink RX4 108 yX2_putLaws, .instanceMethod yX2_putLaws, .selects RX2 yX2_putLaws yX2_putLaws, .code yX2_putLaws cX2_putLaws 3 none, .fieldLink RX2 22 "BroadSheet$Lips" "next" "I", .fieldLink RX2 25 "BroadSheet$Lips" "bend" "I"] ++ wsX40 ++ wsX20)
def wsX4_spread : List Cond := .code yX4_spread cX4_spread 3 (some .int) :: ([.fieldLink RX4 19 "BroadSheet" "lips" "LBroadSheet$Lips;", .methodLink RX4 39 yX4_within, .static yX4_within, .initialized RX4, .code yX4_within cX4_within 3 (some .boolean), .methodLink RX4 111 yX2_putSpread, .instanceMethod yX2_putSpread, .selects RX2 yX2_putSpread yX2_putSpread, .initialized RX2, .code yX2_putSpread cX2_putSpread 3 none, .fieldLink RX2 28 "BroadSheet$Lips" "main" "I", .fieldLink RX2 40 "BroadSheet$Lips" "side" "I"] ++ wsX40 ++ wsX20)
def wsX4_base : List Cond := .code yX4_base cX4_base 3 (some .int) :: ([.fieldLink RX4 19 "BroadSheet" "lips" "LBroadSheet$Lips;", .methodLink RX4 55 yX4_isPlace, .instanceMethod yX4_isPlace, .selects RX4 yX4_isPlace yX4_isPlace, .initialized RX4, .code yX4_isPlace cX4_isPlace 2 (some .boolean), .methodLink RX4 43 yX2_places, .instanceMethod yX2_places, .selects RX2 yX2_places yX2_places, .initialized RX2, .code yX2_places cX2_places 1 (some .int), .fieldLink RX2 18 "BroadSheet$Lips" "places" "I", .methodLink RX4 39 yX4_within, .static yX4_within, .code yX4_within cX4_within 3 (some .boolean), .methodLink RX4 101 yX2_putBase, .instanceMethod yX2_putBase, .selects RX2 yX2_putBase yX2_putBase, .code yX2_putBase cX2_putBase 3 none, .fieldLink RX2 9 "BroadSheet$Lips" "bases" "[I"] ++ wsX40 ++ wsX20)
def wsX4_set_r1 : List Cond := [Cond.fieldLink RX4 19 "BroadSheet" "lips" "LBroadSheet$Lips;", Cond.methodLink RX4 55 yX4_isPlace, Cond.instanceMethod yX4_isPlace, Cond.selects RX4 yX4_isPlace yX4_isPlace, Cond.initialized RX4, Cond.code yX4_isPlace cX4_isPlace 2 (some .boolean), Cond.methodLink RX4 43 yX2_places, Cond.instanceMethod yX2_places, Cond.selects RX2 yX2_places yX2_places, Cond.initialized RX2, Cond.code yX2_places cX2_places 1 (some .int), Cond.fieldLink RX2 18 "BroadSheet$Lips" "places" "I", Cond.methodLink RX4 39 yX4_within, Cond.static yX4_within, Cond.code yX4_within cX4_within 3 (some .boolean), Cond.methodLink RX4 114 yX2_trySetting, Cond.instanceMethod yX2_trySetting, Cond.selects RX2 yX2_trySetting yX2_trySetting, Cond.code yX2_trySetting cX2_trySetting 4 (some .boolean), Cond.fieldLink RX2 15 "BroadSheet$Lips" "settings" "[I", Cond.fieldLink RX2 22 "BroadSheet$Lips" "next" "I", Cond.fieldLink RX2 25 "BroadSheet$Lips" "bend" "I", Cond.methodLink RX2 43 yX2_isLawful, Cond.instanceMethod yX2_isLawful]
def wsX4_set_r2 : List Cond := [Cond.selects RX2 yX2_isLawful yX2_isLawful, Cond.code yX2_isLawful cX2_isLawful 4 (some .boolean), Cond.methodLink RX2 47 Lib.Math.abs.name, Cond.static Lib.Math.abs.name, Cond.initialized "java/lang/Math", Cond.code Lib.Math.abs.name Lib.Math.abs.code 1 (some .int)]
def wsX4_set : List Cond := .code yX4_set cX4_set 3 (some .int) :: ((wsX4_set_r1 ++ wsX4_set_r2) ++ wsX40 ++ wsX20)
def wsX4_about_r1 : List Cond := [Cond.constant RX4 68 (-1000001), Cond.fieldLink RX4 19 "BroadSheet" "lips" "LBroadSheet$Lips;", Cond.constant RX4 82 (-1000002), Cond.methodLink RX4 55 yX4_isPlace, Cond.instanceMethod yX4_isPlace, Cond.selects RX4 yX4_isPlace yX4_isPlace, Cond.initialized RX4, Cond.code yX4_isPlace cX4_isPlace 2 (some .boolean), Cond.methodLink RX4 43 yX2_places, Cond.instanceMethod yX2_places, Cond.selects RX2 yX2_places yX2_places, Cond.initialized RX2, Cond.code yX2_places cX2_places 1 (some .int), Cond.fieldLink RX2 18 "BroadSheet$Lips" "places" "I", Cond.methodLink RX4 39 yX4_within, Cond.static yX4_within, Cond.code yX4_within cX4_within 3 (some .boolean), Cond.methodLink RX4 117 yX2_settingOf, Cond.instanceMethod yX2_settingOf, Cond.selects RX2 yX2_settingOf yX2_settingOf, Cond.code yX2_settingOf cX2_settingOf 2 (some .int), Cond.fieldLink RX2 15 "BroadSheet$Lips" "settings" "[I", Cond.methodLink RX4 120 yX2_baseOf, Cond.instanceMethod yX2_baseOf]
def wsX4_about_r2 : List Cond := [Cond.selects RX2 yX2_baseOf yX2_baseOf, Cond.code yX2_baseOf cX2_baseOf 2 (some .int), Cond.fieldLink RX2 9 "BroadSheet$Lips" "bases" "[I", Cond.methodLink RX4 123 yX2_errorOf, Cond.instanceMethod yX2_errorOf, Cond.selects RX2 yX2_errorOf yX2_errorOf, Cond.code yX2_errorOf cX2_errorOf 3 (some .int), Cond.fieldLink RX2 28 "BroadSheet$Lips" "main" "I", Cond.fieldLink RX2 40 "BroadSheet$Lips" "side" "I"]
def wsX4_about : List Cond := .code yX4_about cX4_about 3 (some .int) :: ((wsX4_about_r1 ++ wsX4_about_r2) ++ wsX40 ++ wsX20)
def wsX4_uneven_r1 : List Cond := [Cond.fieldLink RX4 19 "BroadSheet" "lips" "LBroadSheet$Lips;", Cond.methodLink RX4 39 yX4_within, Cond.static yX4_within, Cond.initialized RX4, Cond.code yX4_within cX4_within 3 (some .boolean), Cond.methodLink RX4 126 yX2_unevenness, Cond.instanceMethod yX2_unevenness, Cond.selects RX2 yX2_unevenness yX2_unevenness, Cond.initialized RX2, Cond.code yX2_unevenness cX2_unevenness 4 (some .int), Cond.fieldLink RX2 18 "BroadSheet$Lips" "places" "I", Cond.methodLink RX2 56 yX2_sizeOf, Cond.instanceMethod yX2_sizeOf, Cond.selects RX2 yX2_sizeOf yX2_sizeOf, Cond.code yX2_sizeOf cX2_sizeOf 2 (some .int), Cond.methodLink RX2 47 Lib.Math.abs.name, Cond.static Lib.Math.abs.name, Cond.initialized "java/lang/Math", Cond.code Lib.Math.abs.name Lib.Math.abs.code 1 (some .int), Cond.methodLink RX2 53 yX2_errorOf, Cond.instanceMethod yX2_errorOf, Cond.selects RX2 yX2_errorOf yX2_errorOf, Cond.code yX2_errorOf cX2_errorOf 3 (some .int), Cond.fieldLink RX2 9 "BroadSheet$Lips" "bases" "[I"]
def wsX4_uneven_r2 : List Cond := [Cond.fieldLink RX2 28 "BroadSheet$Lips" "main" "I", Cond.fieldLink RX2 15 "BroadSheet$Lips" "settings" "[I", Cond.fieldLink RX2 40 "BroadSheet$Lips" "side" "I", Cond.methodLink RX2 59 yX2_together, Cond.static yX2_together, Cond.code yX2_together cX2_together 3 (some .int), Cond.methodLink RX2 63 Lib.Math.max.name, Cond.static Lib.Math.max.name, Cond.code Lib.Math.max.name Lib.Math.max.code 2 (some .int)]
def wsX4_uneven : List Cond := .code yX4_uneven cX4_uneven 2 (some .int) :: ((wsX4_uneven_r1 ++ wsX4_uneven_r2) ++ wsX40 ++ wsX20)
def wsX4_best_r1 : List Cond := [Cond.fieldLink RX4 19 "BroadSheet" "lips" "LBroadSheet$Lips;", Cond.methodLink RX4 39 yX4_within, Cond.static yX4_within, Cond.initialized RX4, Cond.code yX4_within cX4_within 3 (some .boolean), Cond.methodLink RX4 130 yX2_settle, Cond.instanceMethod yX2_settle, Cond.selects RX2 yX2_settle yX2_settle, Cond.initialized RX2, Cond.code yX2_settle cX2_settle 5 (some .int), Cond.fieldLink RX2 18 "BroadSheet$Lips" "places" "I", Cond.fieldLink RX2 15 "BroadSheet$Lips" "settings" "[I", Cond.methodLink RX2 67 yX2_weighLast, Cond.instanceMethod yX2_weighLast, Cond.selects RX2 yX2_weighLast yX2_weighLast, Cond.code yX2_weighLast cX2_weighLast 4 none, Cond.fieldLink RX2 31 "BroadSheet$Lips" "rest" "[I", Cond.fieldLink RX2 9 "BroadSheet$Lips" "bases" "[I", Cond.fieldLink RX2 28 "BroadSheet$Lips" "main" "I", Cond.fieldLink RX2 40 "BroadSheet$Lips" "side" "I", Cond.methodLink RX2 47 Lib.Math.abs.name, Cond.static Lib.Math.abs.name, Cond.initialized "java/lang/Math", Cond.code Lib.Math.abs.name Lib.Math.abs.code 1 (some .int)]
def wsX4_best_r2 : List Cond := [Cond.methodLink RX2 82 yX2_spot, Cond.static yX2_spot, Cond.code yX2_spot cX2_spot 3 (some .int), Cond.methodLink RX2 70 yX2_weigh, Cond.instanceMethod yX2_weigh, Cond.selects RX2 yX2_weigh yX2_weigh, Cond.code yX2_weigh cX2_weigh 7 none, Cond.fieldLink RX2 22 "BroadSheet$Lips" "next" "I", Cond.methodLink RX2 63 Lib.Math.max.name, Cond.static Lib.Math.max.name, Cond.code Lib.Math.max.name Lib.Math.max.code 2 (some .int), Cond.methodLink RX2 86 Lib.Math.min.name, Cond.static Lib.Math.min.name, Cond.code Lib.Math.min.name Lib.Math.min.code 2 (some .int), Cond.methodLink RX2 89 yX2_leastRest, Cond.instanceMethod yX2_leastRest, Cond.selects RX2 yX2_leastRest yX2_leastRest, Cond.code yX2_leastRest cX2_leastRest 14 (some .int), Cond.constant RX2 92 (1000000), Cond.methodLink RX2 93 yX2_highestAfter, Cond.instanceMethod yX2_highestAfter, Cond.selects RX2 yX2_highestAfter yX2_highestAfter, Cond.code yX2_highestAfter cX2_highestAfter 3 (some .int), Cond.fieldLink RX2 25 "BroadSheet$Lips" "bend" "I"]
def wsX4_best_r3 : List Cond := [Cond.methodLink RX2 96 yX2_lowestAfter, Cond.instanceMethod yX2_lowestAfter, Cond.selects RX2 yX2_lowestAfter yX2_lowestAfter, Cond.code yX2_lowestAfter cX2_lowestAfter 3 (some .int), Cond.methodLink RX2 74 yX2_settleFirstTwo, Cond.instanceMethod yX2_settleFirstTwo, Cond.selects RX2 yX2_settleFirstTwo yX2_settleFirstTwo, Cond.code yX2_settleFirstTwo cX2_settleFirstTwo 8 (some .int), Cond.methodLink RX2 59 yX2_together, Cond.static yX2_together, Cond.code yX2_together cX2_together 3 (some .int), Cond.methodLink RX2 56 yX2_sizeOf, Cond.instanceMethod yX2_sizeOf, Cond.selects RX2 yX2_sizeOf yX2_sizeOf, Cond.code yX2_sizeOf cX2_sizeOf 2 (some .int), Cond.methodLink RX2 53 yX2_errorOf, Cond.instanceMethod yX2_errorOf, Cond.selects RX2 yX2_errorOf yX2_errorOf, Cond.code yX2_errorOf cX2_errorOf 3 (some .int), Cond.methodLink RX2 78 yX2_lesserAfter, Cond.instanceMethod yX2_lesserAfter, Cond.selects RX2 yX2_lesserAfter yX2_lesserAfter, Cond.code yX2_lesserAfter cX2_lesserAfter 12 (some .int)]
def wsX4_best : List Cond := .code yX4_best cX4_best 2 (some .int) :: ((wsX4_best_r1 ++ (wsX4_best_r2 ++ wsX4_best_r3)) ++ wsX40 ++ wsX20)
def wsX4_kind : List Cond := .code yX4_kind cX4_kind 4 (some .int) :: ([.fieldLink RX4 28 "BroadSheet" "sets" "LBroadSheet$Sets;", .methodLink RX4 39 yX4_within, .static yX4_within, .initialized RX4, .code yX4_within cX4_within 3 (some .boolean), .methodLink RX4 133 yX3_count, .instanceMethod yX3_count, .selects RX3 yX3_count yX3_count, .initialized RX3, .code yX3_count cX3_count 1 (some .int), .fieldLink RX3 31 "BroadSheet$Sets" "count" "I", .methodLink RX4 134 yX3_add, .instanceMethod yX3_add, .selects RX3 yX3_add yX3_add, .code yX3_add cX3_add 4 (some .int), .fieldLink RX3 9 "BroadSheet$Sets" "widths" "[I", .fieldLink RX3 15 "BroadSheet$Sets" "prices" "[I", .fieldLink RX3 18 "BroadSheet$Sets" "bounds" "[I"] ++ wsX40 ++ wsX30)
def wsX4_canLie_r1 : List Cond := [Cond.fieldLink RX4 28 "BroadSheet" "sets" "LBroadSheet$Sets;", Cond.methodLink RX4 133 yX3_count, Cond.instanceMethod yX3_count, Cond.selects RX3 yX3_count yX3_count, Cond.initialized RX3, Cond.code yX3_count cX3_count 1 (some .int), Cond.fieldLink RX3 31 "BroadSheet$Sets" "count" "I", Cond.methodLink RX4 39 yX4_within, Cond.static yX4_within, Cond.initialized RX4, Cond.code yX4_within cX4_within 3 (some .boolean), Cond.methodLink RX4 55 yX4_isPlace, Cond.instanceMethod yX4_isPlace, Cond.selects RX4 yX4_isPlace yX4_isPlace, Cond.code yX4_isPlace cX4_isPlace 2 (some .boolean), Cond.fieldLink RX4 19 "BroadSheet" "lips" "LBroadSheet$Lips;", Cond.methodLink RX4 43 yX2_places, Cond.instanceMethod yX2_places, Cond.selects RX2 yX2_places yX2_places, Cond.initialized RX2, Cond.code yX2_places cX2_places 1 (some .int), Cond.fieldLink RX2 18 "BroadSheet$Lips" "places" "I", Cond.methodLink RX4 137 yX3_lies, Cond.instanceMethod yX3_lies]
def wsX4_canLie_r2 : List Cond := [Cond.selects RX3 yX3_lies yX3_lies, Cond.code yX3_lies cX3_lies 5 (some .boolean), Cond.fieldLink RX3 9 "BroadSheet$Sets" "widths" "[I", Cond.fieldLink RX3 27 "BroadSheet$Sets" "lips" "LBroadSheet$Lips;", Cond.fieldLink RX3 18 "BroadSheet$Sets" "bounds" "[I", Cond.methodLink RX3 35 yX2_places, Cond.methodLink RX3 41 yX2_sizeOf, Cond.instanceMethod yX2_sizeOf, Cond.selects RX2 yX2_sizeOf yX2_sizeOf, Cond.code yX2_sizeOf cX2_sizeOf 2 (some .int), Cond.methodLink RX2 47 Lib.Math.abs.name, Cond.static Lib.Math.abs.name, Cond.initialized "java/lang/Math", Cond.code Lib.Math.abs.name Lib.Math.abs.code 1 (some .int), Cond.methodLink RX2 53 yX2_errorOf, Cond.instanceMethod yX2_errorOf, Cond.selects RX2 yX2_errorOf yX2_errorOf, Cond.code yX2_errorOf cX2_errorOf 3 (some .int), Cond.fieldLink RX2 9 "BroadSheet$Lips" "bases" "[I", Cond.fieldLink RX2 28 "BroadSheet$Lips" "main" "I", Cond.fieldLink RX2 15 "BroadSheet$Lips" "settings" "[I", Cond.fieldLink RX2 40 "BroadSheet$Lips" "side" "I"]
def wsX4_canLie : List Cond := .code yX4_canLie cX4_canLie 3 (some .int) :: ((wsX4_canLie_r1 ++ wsX4_canLie_r2) ++ wsX40 ++ wsX30 ++ wsX20)
def wsX4_cut_r1 : List Cond := [Cond.fieldLink RX4 28 "BroadSheet" "sets" "LBroadSheet$Sets;", Cond.methodLink RX4 140 yX3_plan, Cond.instanceMethod yX3_plan, Cond.selects RX3 yX3_plan yX3_plan, Cond.initialized RX3, Cond.code yX3_plan cX3_plan 3 (some .int), Cond.fieldLink RX3 27 "BroadSheet$Sets" "lips" "LBroadSheet$Lips;", Cond.fieldLink RX3 21 "BroadSheet$Sets" "worth" "[I", Cond.methodLink RX3 35 yX2_places, Cond.instanceMethod yX2_places, Cond.selects RX2 yX2_places yX2_places, Cond.initialized RX2, Cond.code yX2_places cX2_places 1 (some .int), Cond.fieldLink RX2 18 "BroadSheet$Lips" "places" "I", Cond.methodLink RX3 45 yX3_weigh, Cond.instanceMethod yX3_weigh, Cond.selects RX3 yX3_weigh yX3_weigh, Cond.code yX3_weigh cX3_weigh 6 none, Cond.fieldLink RX3 31 "BroadSheet$Sets" "count" "I", Cond.fieldLink RX3 15 "BroadSheet$Sets" "prices" "[I", Cond.fieldLink RX3 9 "BroadSheet$Sets" "widths" "[I", Cond.fieldLink RX3 24 "BroadSheet$Sets" "begins" "[I", Cond.methodLink RX3 52 yX3_lies, Cond.instanceMethod yX3_lies]
def wsX4_cut_r2 : List Cond := [Cond.selects RX3 yX3_lies yX3_lies, Cond.code yX3_lies cX3_lies 5 (some .boolean), Cond.fieldLink RX3 18 "BroadSheet$Sets" "bounds" "[I", Cond.methodLink RX3 41 yX2_sizeOf, Cond.instanceMethod yX2_sizeOf, Cond.selects RX2 yX2_sizeOf yX2_sizeOf, Cond.code yX2_sizeOf cX2_sizeOf 2 (some .int), Cond.methodLink RX2 47 Lib.Math.abs.name, Cond.static Lib.Math.abs.name, Cond.initialized "java/lang/Math", Cond.code Lib.Math.abs.name Lib.Math.abs.code 1 (some .int), Cond.methodLink RX2 53 yX2_errorOf, Cond.instanceMethod yX2_errorOf, Cond.selects RX2 yX2_errorOf yX2_errorOf, Cond.code yX2_errorOf cX2_errorOf 3 (some .int), Cond.fieldLink RX2 9 "BroadSheet$Lips" "bases" "[I", Cond.fieldLink RX2 28 "BroadSheet$Lips" "main" "I", Cond.fieldLink RX2 15 "BroadSheet$Lips" "settings" "[I", Cond.fieldLink RX2 40 "BroadSheet$Lips" "side" "I", Cond.methodLink RX3 49 yX3_dropCovered, Cond.instanceMethod yX3_dropCovered, Cond.selects RX3 yX3_dropCovered yX3_dropCovered, Cond.code yX3_dropCovered cX3_dropCovered 4 none]
def wsX4_cut : List Cond := .code yX4_cut cX4_cut 1 (some .int) :: ((wsX4_cut_r1 ++ wsX4_cut_r2) ++ wsX40 ++ wsX30 ++ wsX20)
def wsX4_cutAt_r1 : List Cond := [Cond.fieldLink RX4 28 "BroadSheet" "sets" "LBroadSheet$Sets;", Cond.methodLink RX4 55 yX4_isPlace, Cond.instanceMethod yX4_isPlace, Cond.selects RX4 yX4_isPlace yX4_isPlace, Cond.initialized RX4, Cond.code yX4_isPlace cX4_isPlace 2 (some .boolean), Cond.fieldLink RX4 19 "BroadSheet" "lips" "LBroadSheet$Lips;", Cond.methodLink RX4 43 yX2_places, Cond.instanceMethod yX2_places, Cond.selects RX2 yX2_places yX2_places, Cond.initialized RX2, Cond.code yX2_places cX2_places 1 (some .int), Cond.fieldLink RX2 18 "BroadSheet$Lips" "places" "I", Cond.methodLink RX4 39 yX4_within, Cond.static yX4_within, Cond.code yX4_within cX4_within 3 (some .boolean), Cond.methodLink RX4 140 yX3_plan, Cond.instanceMethod yX3_plan, Cond.selects RX3 yX3_plan yX3_plan, Cond.initialized RX3, Cond.code yX3_plan cX3_plan 3 (some .int), Cond.fieldLink RX3 27 "BroadSheet$Sets" "lips" "LBroadSheet$Lips;", Cond.fieldLink RX3 21 "BroadSheet$Sets" "worth" "[I", Cond.methodLink RX3 35 yX2_places]
def wsX4_cutAt_r2 : List Cond := [Cond.methodLink RX3 45 yX3_weigh, Cond.instanceMethod yX3_weigh, Cond.selects RX3 yX3_weigh yX3_weigh, Cond.code yX3_weigh cX3_weigh 6 none, Cond.fieldLink RX3 31 "BroadSheet$Sets" "count" "I", Cond.fieldLink RX3 15 "BroadSheet$Sets" "prices" "[I", Cond.fieldLink RX3 9 "BroadSheet$Sets" "widths" "[I", Cond.fieldLink RX3 24 "BroadSheet$Sets" "begins" "[I", Cond.methodLink RX3 52 yX3_lies, Cond.instanceMethod yX3_lies, Cond.selects RX3 yX3_lies yX3_lies, Cond.code yX3_lies cX3_lies 5 (some .boolean), Cond.fieldLink RX3 18 "BroadSheet$Sets" "bounds" "[I", Cond.methodLink RX3 41 yX2_sizeOf, Cond.instanceMethod yX2_sizeOf, Cond.selects RX2 yX2_sizeOf yX2_sizeOf, Cond.code yX2_sizeOf cX2_sizeOf 2 (some .int), Cond.methodLink RX2 47 Lib.Math.abs.name, Cond.static Lib.Math.abs.name, Cond.initialized "java/lang/Math", Cond.code Lib.Math.abs.name Lib.Math.abs.code 1 (some .int), Cond.methodLink RX2 53 yX2_errorOf, Cond.instanceMethod yX2_errorOf, Cond.selects RX2 yX2_errorOf yX2_errorOf]
def wsX4_cutAt_r3 : List Cond := [Cond.code yX2_errorOf cX2_errorOf 3 (some .int), Cond.fieldLink RX2 9 "BroadSheet$Lips" "bases" "[I", Cond.fieldLink RX2 28 "BroadSheet$Lips" "main" "I", Cond.fieldLink RX2 15 "BroadSheet$Lips" "settings" "[I", Cond.fieldLink RX2 40 "BroadSheet$Lips" "side" "I", Cond.methodLink RX3 49 yX3_dropCovered, Cond.instanceMethod yX3_dropCovered, Cond.selects RX3 yX3_dropCovered yX3_dropCovered, Cond.code yX3_dropCovered cX3_dropCovered 4 none, Cond.methodLink RX4 143 yX3_plannedAt, Cond.instanceMethod yX3_plannedAt, Cond.selects RX3 yX3_plannedAt yX3_plannedAt, Cond.code yX3_plannedAt cX3_plannedAt 2 (some .int)]
def wsX4_cutAt : List Cond := .code yX4_cutAt cX4_cutAt 2 (some .int) :: ((wsX4_cutAt_r1 ++ (wsX4_cutAt_r2 ++ wsX4_cutAt_r3)) ++ wsX40 ++ wsX20 ++ wsX30)
def wsX4_grade : List Cond := .code yX4_grade cX4_grade 1 (some .int) :: ([.fieldLink RX4 35 "BroadSheet" "grades" "LBroadSheet$Grades;", .methodLink RX4 146 yX1_count, .instanceMethod yX1_count, .selects RX1 yX1_count yX1_count, .initialized RX1, .code yX1_count cX1_count 1 (some .int), .fieldLink RX1 24 "BroadSheet$Grades" "count" "I", .methodLink RX4 147 yX1_add, .instanceMethod yX1_add, .selects RX1 yX1_add yX1_add, .code yX1_add cX1_add 1 (some .int), .fieldLink RX1 28 "BroadSheet$Grades" "weighed" "Z"] ++ wsX40 ++ wsX10)
def wsX4_isGrade : List Cond := .code yX4_isGrade cX4_isGrade 2 (some .boolean) :: ([.fieldLink RX4 35 "BroadSheet" "grades" "LBroadSheet$Grades;", .methodLink RX4 146 yX1_count, .instanceMethod yX1_count, .selects RX1 yX1_count yX1_count, .initialized RX1, .code yX1_count cX1_count 1 (some .int), .fieldLink RX1 24 "BroadSheet$Grades" "count" "I", .methodLink RX4 39 yX4_within, .static yX4_within, .initialized RX4, .code yX4_within cX4_within 3 (some .boolean)] ++ wsX40 ++ wsX10)
def wsX4_cost_r1 : List Cond := [Cond.fieldLink RX4 35 "BroadSheet" "grades" "LBroadSheet$Grades;", Cond.methodLink RX4 149 yX4_isGrade, Cond.instanceMethod yX4_isGrade, Cond.selects RX4 yX4_isGrade yX4_isGrade, Cond.initialized RX4, Cond.code yX4_isGrade cX4_isGrade 2 (some .boolean), Cond.methodLink RX4 146 yX1_count, Cond.instanceMethod yX1_count, Cond.selects RX1 yX1_count yX1_count, Cond.initialized RX1, Cond.code yX1_count cX1_count 1 (some .int), Cond.fieldLink RX1 24 "BroadSheet$Grades" "count" "I", Cond.methodLink RX4 39 yX4_within, Cond.static yX4_within, Cond.code yX4_within cX4_within 3 (some .boolean), Cond.methodLink RX4 152 yX1_putCost, Cond.instanceMethod yX1_putCost, Cond.selects RX1 yX1_putCost yX1_putCost, Cond.code yX1_putCost cX1_putCost 5 (some .int), Cond.fieldLink RX1 9 "BroadSheet$Grades" "costs" "[I", Cond.fieldLink RX1 28 "BroadSheet$Grades" "weighed" "Z", Cond.methodLink RX1 32 yX1_costOf, Cond.instanceMethod yX1_costOf, Cond.selects RX1 yX1_costOf yX1_costOf]
def wsX4_cost_r2 : List Cond := [Cond.code yX1_costOf cX1_costOf 3 (some .int)]
def wsX4_cost : List Cond := .code yX4_cost cX4_cost 4 (some .int) :: ((wsX4_cost_r1 ++ wsX4_cost_r2) ++ wsX40 ++ wsX10)
def wsX4_tour_r1 : List Cond := [Cond.fieldLink RX4 35 "BroadSheet" "grades" "LBroadSheet$Grades;", Cond.methodLink RX4 149 yX4_isGrade, Cond.instanceMethod yX4_isGrade, Cond.selects RX4 yX4_isGrade yX4_isGrade, Cond.initialized RX4, Cond.code yX4_isGrade cX4_isGrade 2 (some .boolean), Cond.methodLink RX4 146 yX1_count, Cond.instanceMethod yX1_count, Cond.selects RX1 yX1_count yX1_count, Cond.initialized RX1, Cond.code yX1_count cX1_count 1 (some .int), Cond.fieldLink RX1 24 "BroadSheet$Grades" "count" "I", Cond.methodLink RX4 39 yX4_within, Cond.static yX4_within, Cond.code yX4_within cX4_within 3 (some .boolean), Cond.methodLink RX4 155 yX1_leastCosts, Cond.instanceMethod yX1_leastCosts, Cond.selects RX1 yX1_leastCosts yX1_leastCosts, Cond.code yX1_leastCosts cX1_leastCosts 2 (some .int), Cond.methodLink RX1 36 yX1_weighAll, Cond.instanceMethod yX1_weighAll, Cond.selects RX1 yX1_weighAll yX1_weighAll, Cond.code yX1_weighAll cX1_weighAll 3 none, Cond.fieldLink RX1 28 "BroadSheet$Grades" "weighed" "Z"]
def wsX4_tour_r2 : List Cond := [Cond.fieldLink RX1 15 "BroadSheet$Grades" "rest" "[I", Cond.methodLink RX1 52 yX1_has, Cond.static yX1_has, Cond.code yX1_has cX1_has 2 (some .boolean), Cond.methodLink RX1 46 yX1_lesserStep, Cond.instanceMethod yX1_lesserStep, Cond.selects RX1 yX1_lesserStep yX1_lesserStep, Cond.code yX1_lesserStep cX1_lesserStep 7 (some .int), Cond.constant RX1 60 (1000000), Cond.methodLink RX1 56 yX1_throughStep, Cond.instanceMethod yX1_throughStep, Cond.selects RX1 yX1_throughStep yX1_throughStep, Cond.code yX1_throughStep cX1_throughStep 4 (some .int), Cond.methodLink RX1 32 yX1_costOf, Cond.instanceMethod yX1_costOf, Cond.selects RX1 yX1_costOf yX1_costOf, Cond.code yX1_costOf cX1_costOf 3 (some .int), Cond.fieldLink RX1 9 "BroadSheet$Grades" "costs" "[I", Cond.methodLink RX1 49 yX1_without, Cond.static yX1_without, Cond.code yX1_without cX1_without 2 (some .int), Cond.methodLink RX1 43 yX1_restOf, Cond.instanceMethod yX1_restOf, Cond.selects RX1 yX1_restOf yX1_restOf]
def wsX4_tour_r3 : List Cond := [Cond.code yX1_restOf cX1_restOf 3 (some .int), Cond.methodLink RX1 39 yX1_allBut, Cond.instanceMethod yX1_allBut, Cond.selects RX1 yX1_allBut yX1_allBut, Cond.code yX1_allBut cX1_allBut 2 (some .int)]
def wsX4_tour : List Cond := .code yX4_tour cX4_tour 2 (some .int) :: ((wsX4_tour_r1 ++ (wsX4_tour_r2 ++ wsX4_tour_r3)) ++ wsX40 ++ wsX10)
def wsX4_tourAt_r1 : List Cond := [Cond.fieldLink RX4 35 "BroadSheet" "grades" "LBroadSheet$Grades;", Cond.methodLink RX4 149 yX4_isGrade, Cond.instanceMethod yX4_isGrade, Cond.selects RX4 yX4_isGrade yX4_isGrade, Cond.initialized RX4, Cond.code yX4_isGrade cX4_isGrade 2 (some .boolean), Cond.methodLink RX4 146 yX1_count, Cond.instanceMethod yX1_count, Cond.selects RX1 yX1_count yX1_count, Cond.initialized RX1, Cond.code yX1_count cX1_count 1 (some .int), Cond.fieldLink RX1 24 "BroadSheet$Grades" "count" "I", Cond.methodLink RX4 39 yX4_within, Cond.static yX4_within, Cond.code yX4_within cX4_within 3 (some .boolean), Cond.methodLink RX4 158 yX1_stepOf, Cond.instanceMethod yX1_stepOf, Cond.selects RX1 yX1_stepOf yX1_stepOf, Cond.code yX1_stepOf cX1_stepOf 6 (some .int), Cond.methodLink RX1 36 yX1_weighAll, Cond.instanceMethod yX1_weighAll, Cond.selects RX1 yX1_weighAll yX1_weighAll, Cond.code yX1_weighAll cX1_weighAll 3 none, Cond.fieldLink RX1 28 "BroadSheet$Grades" "weighed" "Z"]
def wsX4_tourAt_r2 : List Cond := [Cond.fieldLink RX1 15 "BroadSheet$Grades" "rest" "[I", Cond.methodLink RX1 52 yX1_has, Cond.static yX1_has, Cond.code yX1_has cX1_has 2 (some .boolean), Cond.methodLink RX1 46 yX1_lesserStep, Cond.instanceMethod yX1_lesserStep, Cond.selects RX1 yX1_lesserStep yX1_lesserStep, Cond.code yX1_lesserStep cX1_lesserStep 7 (some .int), Cond.constant RX1 60 (1000000), Cond.methodLink RX1 56 yX1_throughStep, Cond.instanceMethod yX1_throughStep, Cond.selects RX1 yX1_throughStep yX1_throughStep, Cond.code yX1_throughStep cX1_throughStep 4 (some .int), Cond.methodLink RX1 32 yX1_costOf, Cond.instanceMethod yX1_costOf, Cond.selects RX1 yX1_costOf yX1_costOf, Cond.code yX1_costOf cX1_costOf 3 (some .int), Cond.fieldLink RX1 9 "BroadSheet$Grades" "costs" "[I", Cond.methodLink RX1 49 yX1_without, Cond.static yX1_without, Cond.code yX1_without cX1_without 2 (some .int), Cond.methodLink RX1 43 yX1_restOf, Cond.instanceMethod yX1_restOf, Cond.selects RX1 yX1_restOf yX1_restOf]
def wsX4_tourAt_r3 : List Cond := [Cond.code yX1_restOf cX1_restOf 3 (some .int), Cond.methodLink RX1 39 yX1_allBut, Cond.instanceMethod yX1_allBut, Cond.selects RX1 yX1_allBut yX1_allBut, Cond.code yX1_allBut cX1_allBut 2 (some .int)]
def wsX4_tourAt : List Cond := .code yX4_tourAt cX4_tourAt 3 (some .int) :: ((wsX4_tourAt_r1 ++ (wsX4_tourAt_r2 ++ wsX4_tourAt_r3)) ++ wsX40 ++ wsX10)
def wsX4_told_r1 : List Cond := [Cond.fieldLink RX4 19 "BroadSheet" "lips" "LBroadSheet$Lips;", Cond.fieldLink RX4 10 "BroadSheet" "eye" "LBroadSheet$Eye;", Cond.fieldLink RX4 28 "BroadSheet" "sets" "LBroadSheet$Sets;", Cond.fieldLink RX4 35 "BroadSheet" "grades" "LBroadSheet$Grades;", Cond.methodLink RX4 43 yX2_places, Cond.instanceMethod yX2_places, Cond.selects RX2 yX2_places yX2_places, Cond.initialized RX2, Cond.code yX2_places cX2_places 1 (some .int), Cond.fieldLink RX2 18 "BroadSheet$Lips" "places" "I", Cond.methodLink RX4 62 yX0_count, Cond.instanceMethod yX0_count, Cond.selects RX0 yX0_count yX0_count, Cond.initialized RX0, Cond.code yX0_count cX0_count 1 (some .int), Cond.fieldLink RX0 34 "BroadSheet$Eye" "count" "I", Cond.methodLink RX4 161 yX0_fittingCount, Cond.instanceMethod yX0_fittingCount, Cond.selects RX0 yX0_fittingCount yX0_fittingCount, Cond.code yX0_fittingCount cX0_fittingCount 1 (some .int), Cond.fieldLink RX0 38 "BroadSheet$Eye" "fittingCount" "I", Cond.methodLink RX4 133 yX3_count, Cond.instanceMethod yX3_count, Cond.selects RX3 yX3_count yX3_count]
def wsX4_told_r2 : List Cond := [Cond.initialized RX3, Cond.code yX3_count cX3_count 1 (some .int), Cond.fieldLink RX3 31 "BroadSheet$Sets" "count" "I", Cond.methodLink RX4 146 yX1_count, Cond.instanceMethod yX1_count, Cond.selects RX1 yX1_count yX1_count, Cond.initialized RX1, Cond.code yX1_count cX1_count 1 (some .int), Cond.fieldLink RX1 24 "BroadSheet$Grades" "count" "I", Cond.methodLink RX4 164 yX2_nextLaw, Cond.instanceMethod yX2_nextLaw, Cond.selects RX2 yX2_nextLaw yX2_nextLaw, Cond.code yX2_nextLaw cX2_nextLaw 1 (some .int), Cond.fieldLink RX2 22 "BroadSheet$Lips" "next" "I", Cond.methodLink RX4 167 yX2_bendLaw, Cond.instanceMethod yX2_bendLaw, Cond.selects RX2 yX2_bendLaw yX2_bendLaw, Cond.code yX2_bendLaw cX2_bendLaw 1 (some .int), Cond.fieldLink RX2 25 "BroadSheet$Lips" "bend" "I", Cond.methodLink RX4 170 yX2_mainSpread, Cond.instanceMethod yX2_mainSpread, Cond.selects RX2 yX2_mainSpread yX2_mainSpread, Cond.code yX2_mainSpread cX2_mainSpread 1 (some .int), Cond.fieldLink RX2 28 "BroadSheet$Lips" "main" "I"]
def wsX4_told_r3 : List Cond := [Cond.methodLink RX4 173 yX2_sideSpread, Cond.instanceMethod yX2_sideSpread, Cond.selects RX2 yX2_sideSpread yX2_sideSpread, Cond.code yX2_sideSpread cX2_sideSpread 1 (some .int), Cond.fieldLink RX2 40 "BroadSheet$Lips" "side" "I"]
def wsX4_told : List Cond := .code yX4_told cX4_told 2 (some .int) :: ((wsX4_told_r1 ++ (wsX4_told_r2 ++ wsX4_told_r3)) ++ wsX40 ++ wsX20 ++ wsX00 ++ wsX30 ++ wsX10)
def wsX5_begin : List Cond := .code yX5_begin cX5_begin 2 none :: ([.fieldLink RX5 79 "BroadSheetModel" "readings" "I", .fieldLink RX5 27 "BroadSheetModel" "group" "[I", .fieldLink RX5 30 "BroadSheetModel" "more" "[I"] ++ wsX50)
def wsX5_init_r1 : List Cond := [Cond.methodLink RX5 1 objectInit, Cond.instanceMethod objectInit, Cond.code objectInit ⟨#[0xb1]⟩ 1 none, Cond.fieldLink RX5 7 "BroadSheetModel" "places" "I", Cond.arrayClass .int, Cond.fieldLink RX5 13 "BroadSheetModel" "time" "[I", Cond.fieldLink RX5 17 "BroadSheetModel" "place" "[I", Cond.fieldLink RX5 20 "BroadSheetModel" "value" "[I", Cond.arrayClass .boolean, Cond.fieldLink RX5 23 "BroadSheetModel" "fits" "[Z", Cond.fieldLink RX5 27 "BroadSheetModel" "group" "[I", Cond.fieldLink RX5 30 "BroadSheetModel" "more" "[I", Cond.fieldLink RX5 33 "BroadSheetModel" "base" "[I", Cond.fieldLink RX5 36 "BroadSheetModel" "setting" "[I", Cond.fieldLink RX5 39 "BroadSheetModel" "next" "I", Cond.fieldLink RX5 42 "BroadSheetModel" "bend" "I", Cond.fieldLink RX5 45 "BroadSheetModel" "main" "I", Cond.fieldLink RX5 48 "BroadSheetModel" "width" "[I", Cond.fieldLink RX5 51 "BroadSheetModel" "price" "[I", Cond.fieldLink RX5 54 "BroadSheetModel" "bound" "[I", Cond.fieldLink RX5 57 "BroadSheetModel" "cost" "[I", Cond.fieldLink RX5 60 "BroadSheetModel" "least" "[I", Cond.fieldLink RX5 63 "BroadSheetModel" "worth" "[I", Cond.fieldLink RX5 66 "BroadSheetModel" "begins" "[I"]
def wsX5_init_r2 : List Cond := [Cond.fieldLink RX5 69 "BroadSheetModel" "rest" "[I", Cond.methodLink RX5 72 yX5_begin, Cond.instanceMethod yX5_begin, Cond.selects RX5 yX5_begin yX5_begin, Cond.initialized RX5, Cond.code yX5_begin cX5_begin 2 none, Cond.fieldLink RX5 79 "BroadSheetModel" "readings" "I"]
def wsX5_init : List Cond := .code yX5_init cX5_init 1 none :: ((wsX5_init_r1 ++ wsX5_init_r2) ++ wsX50)
def wsX5_in : List Cond := .code yX5_in cX5_in 3 (some .boolean) :: ([])
def wsX5_size : List Cond := .code yX5_size cX5_size 1 (some .int) :: ([])
def wsX5_isPlace : List Cond := .code yX5_isPlace cX5_isPlace 2 (some .boolean) :: ([.fieldLink RX5 7 "BroadSheetModel" "places" "I", .methodLink RX5 75 yX5_in, .static yX5_in, .initialized RX5, .code yX5_in cX5_in 3 (some .boolean)] ++ wsX50)
def wsX5_sheet : List Cond := .code yX5_sheet cX5_sheet 4 (some .int) :: ([.fieldLink RX5 7 "BroadSheetModel" "places" "I", .fieldLink RX5 82 "BroadSheetModel" "kinds" "I", .fieldLink RX5 33 "BroadSheetModel" "base" "[I", .fieldLink RX5 36 "BroadSheetModel" "setting" "[I", .methodLink RX5 75 yX5_in, .static yX5_in, .initialized RX5, .code yX5_in cX5_in 3 (some .boolean), .methodLink RX5 72 yX5_begin, .instanceMethod yX5_begin, .selects RX5 yX5_begin yX5_begin, .code yX5_begin cX5_begin 2 none, .fieldLink RX5 79 "BroadSheetModel" "readings" "I", .fieldLink RX5 27 "BroadSheetModel" "group" "[I", .fieldLink RX5 30 "BroadSheetModel" "more" "[I"] ++ wsX50)
def wsX5_read : List Cond := .code yX5_read cX5_read 10 (some .int) :: ([.fieldLink RX5 79 "BroadSheetModel" "readings" "I", .fieldLink RX5 27 "BroadSheetModel" "group" "[I", .fieldLink RX5 30 "BroadSheetModel" "more" "[I", .fieldLink RX5 13 "BroadSheetModel" "time" "[I", .fieldLink RX5 17 "BroadSheetModel" "place" "[I", .fieldLink RX5 20 "BroadSheetModel" "value" "[I", .fieldLink RX5 23 "BroadSheetModel" "fits" "[Z", .methodLink RX5 85 yX5_isPlace, .instanceMethod yX5_isPlace, .selects RX5 yX5_isPlace yX5_isPlace, .initialized RX5, .code yX5_isPlace cX5_isPlace 2 (some .boolean), .fieldLink RX5 7 "BroadSheetModel" "places" "I", .methodLink RX5 75 yX5_in, .static yX5_in, .code yX5_in cX5_in 3 (some .boolean)] ++ wsX50)
def wsX5_reading : List Cond := .code yX5_reading cX5_reading 3 (some .int) :: ([.fieldLink RX5 79 "BroadSheetModel" "readings" "I", .constant RX5 89 (-1000001), .fieldLink RX5 13 "BroadSheetModel" "time" "[I", .fieldLink RX5 17 "BroadSheetModel" "place" "[I", .fieldLink RX5 20 "BroadSheetModel" "value" "[I", .fieldLink RX5 23 "BroadSheetModel" "fits" "[Z", .constant RX5 90 (-1000002), .methodLink RX5 75 yX5_in, .static yX5_in, .initialized RX5, .code yX5_in cX5_in 3 (some .boolean)] ++ wsX50)
def wsX5_isAcross : List Cond := .code yX5_isAcross cX5_isAcross 2 (some .boolean) :: ([.fieldLink RX5 27 "BroadSheetModel" "group" "[I"] ++ wsX50)
def wsX5_acrossOf : List Cond := .code yX5_acrossOf cX5_acrossOf 2 (some .int) :: ([.fieldLink RX5 30 "BroadSheetModel" "more" "[I"] ++ wsX50)
def wsX5_across : List Cond := .code yX5_across cX5_across 2 (some .int) :: ([.constant RX5 89 (-1000001), .constant RX5 98 (-1000005), .methodLink RX5 85 yX5_isPlace, .instanceMethod yX5_isPlace, .selects RX5 yX5_isPlace yX5_isPlace, .initialized RX5, .code yX5_isPlace cX5_isPlace 2 (some .boolean), .fieldLink RX5 7 "BroadSheetModel" "places" "I", .methodLink RX5 75 yX5_in, .static yX5_in, .code yX5_in cX5_in 3 (some .boolean), .methodLink RX5 91 yX5_isAcross, .instanceMethod yX5_isAcross, .selects RX5 yX5_isAcross yX5_isAcross, .code yX5_isAcross cX5_isAcross 2 (some .boolean), .fieldLink RX5 27 "BroadSheetModel" "group" "[I", .methodLink RX5 94 yX5_acrossOf, .instanceMethod yX5_acrossOf, .selects RX5 yX5_acrossOf yX5_acrossOf, .code yX5_acrossOf cX5_acrossOf 2 (some .int), .fieldLink RX5 30 "BroadSheetModel" "more" "[I"] ++ wsX50)
def wsX5_along : List Cond := .code yX5_along cX5_along 3 (some .int) :: ([.constant RX5 89 (-1000001), .fieldLink RX5 27 "BroadSheetModel" "group" "[I", .fieldLink RX5 30 "BroadSheetModel" "more" "[I", .constant RX5 98 (-1000005), .methodLink RX5 75 yX5_in, .static yX5_in, .initialized RX5, .code yX5_in cX5_in 3 (some .boolean)] ++ wsX50)
def wsX5_groups : List Cond := .code yX5_groups cX5_groups 5 (some .int) :: ([.fieldLink RX5 7 "BroadSheetModel" "places" "I", .fieldLink RX5 27 "BroadSheetModel" "group" "[I"] ++ wsX50)
def wsX5_take : List Cond := .code yX5_take cX5_take 2 (some .int) :: ([.fieldLink RX5 7 "BroadSheetModel" "places" "I", .fieldLink RX5 33 "BroadSheetModel" "base" "[I", .methodLink RX5 91 yX5_isAcross, .instanceMethod yX5_isAcross, .selects RX5 yX5_isAcross yX5_isAcross, .initialized RX5, .code yX5_isAcross cX5_isAcross 2 (some .boolean), .fieldLink RX5 27 "BroadSheetModel" "group" "[I", .methodLink RX5 94 yX5_acrossOf, .instanceMethod yX5_acrossOf, .selects RX5 yX5_acrossOf yX5_acrossOf, .code yX5_acrossOf cX5_acrossOf 2 (some .int), .fieldLink RX5 30 "BroadSheetModel" "more" "[I", .methodLink RX5 75 yX5_in, .static yX5_in, .code yX5_in cX5_in 3 (some .boolean)] ++ wsX50)
def wsX5_clear : List Cond := .code yX5_clear cX5_clear 2 (some .int) :: ([.fieldLink RX5 79 "BroadSheetModel" "readings" "I", .methodLink RX5 72 yX5_begin, .instanceMethod yX5_begin, .selects RX5 yX5_begin yX5_begin, .initialized RX5, .code yX5_begin cX5_begin 2 none, .fieldLink RX5 27 "BroadSheetModel" "group" "[I", .fieldLink RX5 30 "BroadSheetModel" "more" "[I"] ++ wsX50)
def wsX5_areLawful : List Cond := .code yX5_areLawful cX5_areLawful 5 (some .boolean) :: ([.fieldLink RX5 7 "BroadSheetModel" "places" "I", .fieldLink RX5 36 "BroadSheetModel" "setting" "[I", .methodLink RX5 99 yX5_size, .static yX5_size, .initialized RX5, .code yX5_size cX5_size 1 (some .int)] ++ wsX50)
def wsX5_laws : List Cond := .code yX5_laws cX5_laws 3 (some .int) :: ([.fieldLink RX5 39 "BroadSheetModel" "next" "I", .fieldLink RX5 42 "BroadSheetModel" "bend" "I", .methodLink RX5 75 yX5_in, .static yX5_in, .initialized RX5, .code yX5_in cX5_in 3 (some .boolean), .methodLink RX5 102 yX5_areLawful, .instanceMethod yX5_areLawful, .selects RX5 yX5_areLawful yX5_areLawful, .code yX5_areLawful cX5_areLawful 5 (some .boolean), .fieldLink RX5 7 "BroadSheetModel" "places" "I", .fieldLink RX5 36 "BroadSheetModel" "setting" "[I", .methodLink RX5 99 yX5_size, .static yX5_size, .code yX5_size cX5_size 1 (some .int)] ++ wsX50)
def wsX5_spread : List Cond := .code yX5_spread cX5_spread 3 (some .int) :: ([.fieldLink RX5 45 "BroadSheetModel" "main" "I", .fieldLink RX5 106 "BroadSheetModel" "side" "I", .methodLink RX5 75 yX5_in, .static yX5_in, .initialized RX5, .code yX5_in cX5_in 3 (some .boolean)] ++ wsX50)
def wsX5_base : List Cond := .code yX5_base cX5_base 3 (some .int) :: ([.fieldLink RX5 33 "BroadSheetModel" "base" "[I", .methodLink RX5 85 yX5_isPlace, .instanceMethod yX5_isPlace, .selects RX5 yX5_isPlace yX5_isPlace, .initialized RX5, .code yX5_isPlace cX5_isPlace 2 (some .boolean), .fieldLink RX5 7 "BroadSheetModel" "places" "I", .methodLink RX5 75 yX5_in, .static yX5_in, .code yX5_in cX5_in 3 (some .boolean)] ++ wsX50)
def wsX5_set : List Cond := .code yX5_set cX5_set 4 (some .int) :: ([.fieldLink RX5 36 "BroadSheetModel" "setting" "[I", .fieldLink RX5 39 "BroadSheetModel" "next" "I", .fieldLink RX5 42 "BroadSheetModel" "bend" "I", .methodLink RX5 85 yX5_isPlace, .instanceMethod yX5_isPlace, .selects RX5 yX5_isPlace yX5_isPlace, .initialized RX5, .code yX5_isPlace cX5_isPlace 2 (some .boolean), .fieldLink RX5 7 "BroadSheetModel" "places" "I", .methodLink RX5 75 yX5_in, .static yX5_in, .code yX5_in cX5_in 3 (some .boolean), .methodLink RX5 102 yX5_areLawful, .instanceMethod yX5_areLawful, .selects RX5 yX5_areLawful yX5_areLawful, .code yX5_areLawful cX5_areLawful 5 (some .boolean), .methodLink RX5 99 yX5_size, .static yX5_size, .code yX5_size cX5_size 1 (some .int)] ++ wsX50)
def wsX5_error : List Cond := .code yX5_error cX5_error 4 (some .int) :: ([.fieldLink RX5 36 "BroadSheetModel" "setting" "[I", .fieldLink RX5 7 "BroadSheetModel" "places" "I", .fieldLink RX5 33 "BroadSheetModel" "base" "[I", .fieldLink RX5 45 "BroadSheetModel" "main" "I", .fieldLink RX5 106 "BroadSheetModel" "side" "I"] ++ wsX50)
def wsX5_about : List Cond := .code yX5_about cX5_about 3 (some .int) :: ([.constant RX5 89 (-1000001), .fieldLink RX5 36 "BroadSheetModel" "setting" "[I", .fieldLink RX5 33 "BroadSheetModel" "base" "[I", .constant RX5 90 (-1000002), .methodLink RX5 85 yX5_isPlace, .instanceMethod yX5_isPlace, .selects RX5 yX5_isPlace yX5_isPlace, .initialized RX5, .code yX5_isPlace cX5_isPlace 2 (some .boolean), .fieldLink RX5 7 "BroadSheetModel" "places" "I", .methodLink RX5 75 yX5_in, .static yX5_in, .code yX5_in cX5_in 3 (some .boolean), .methodLink RX5 109 yX5_error, .instanceMethod yX5_error, .selects RX5 yX5_error yX5_error, .code yX5_error cX5_error 4 (some .int), .fieldLink RX5 45 "BroadSheetModel" "main" "I", .fieldLink RX5 106 "BroadSheetModel" "side" "I"] ++ wsX50)
def wsX5_with : List Cond := .code yX5_with cX5_with 3 (some .int) :: ([])
def wsX5_unevenOf : List Cond := .code yX5_unevenOf cX5_unevenOf 4 (some .int) :: ([.fieldLink RX5 7 "BroadSheetModel" "places" "I", .methodLink RX5 109 yX5_error, .instanceMethod yX5_error, .selects RX5 yX5_error yX5_error, .initialized RX5, .code yX5_error cX5_error 4 (some .int), .fieldLink RX5 36 "BroadSheetModel" "setting" "[I", .fieldLink RX5 33 "BroadSheetModel" "base" "[I", .fieldLink RX5 45 "BroadSheetModel" "main" "I", .fieldLink RX5 106 "BroadSheetModel" "side" "I", .methodLink RX5 99 yX5_size, .static yX5_size, .code yX5_size cX5_size 1 (some .int), .methodLink RX5 112 yX5_with, .static yX5_with, .code yX5_with cX5_with 3 (some .int)] ++ wsX50)
def wsX5_uneven : List Cond := .code yX5_uneven cX5_uneven 2 (some .int) :: ([.methodLink RX5 75 yX5_in, .static yX5_in, .initialized RX5, .code yX5_in cX5_in 3 (some .boolean), .methodLink RX5 116 yX5_unevenOf, .instanceMethod yX5_unevenOf, .selects RX5 yX5_unevenOf yX5_unevenOf, .code yX5_unevenOf cX5_unevenOf 4 (some .int), .fieldLink RX5 7 "BroadSheetModel" "places" "I", .methodLink RX5 109 yX5_error, .instanceMethod yX5_error, .selects RX5 yX5_error yX5_error, .code yX5_error cX5_error 4 (some .int), .fieldLink RX5 36 "BroadSheetModel" "setting" "[I", .fieldLink RX5 33 "BroadSheetModel" "base" "[I", .fieldLink RX5 45 "BroadSheetModel" "main" "I", .fieldLink RX5 106 "BroadSheetModel" "side" "I", .methodLink RX5 99 yX5_size, .static yX5_size, .code yX5_size cX5_size 1 (some .int), .methodLink RX5 112 yX5_with, .static yX5_with, .code yX5_with cX5_with 3 (some .int)] ++ wsX50)
def wsX5_goes : List Cond := .code yX5_goes cX5_goes 5 (some .boolean) :: ([.fieldLink RX5 39 "BroadSheetModel" "next" "I", .fieldLink RX5 42 "BroadSheetModel" "bend" "I", .methodLink RX5 99 yX5_size, .static yX5_size, .initialized RX5, .code yX5_size cX5_size 1 (some .int)] ++ wsX50)
def wsX5_layLeast : List Cond := .code yX5_layLeast cX5_layLeast 10 none :: ([.fieldLink RX5 7 "BroadSheetModel" "places" "I", .fieldLink RX5 33 "BroadSheetModel" "base" "[I", .fieldLink RX5 45 "BroadSheetModel" "main" "I", .fieldLink RX5 106 "BroadSheetModel" "side" "I", .fieldLink RX5 60 "BroadSheetModel" "least" "[I", .methodLink RX5 99 yX5_size, .static yX5_size, .initialized RX5, .code yX5_size cX5_size 1 (some .int), .methodLink RX5 119 yX5_goes, .instanceMethod yX5_goes, .selects RX5 yX5_goes yX5_goes, .code yX5_goes cX5_goes 5 (some .boolean), .fieldLink RX5 39 "BroadSheetModel" "next" "I", .fieldLink RX5 42 "BroadSheetModel" "bend" "I", .methodLink RX5 112 yX5_with, .static yX5_with, .code yX5_with cX5_with 3 (some .int)] ++ wsX50)
def wsX5_best_r1 : List Cond := [Cond.fieldLink RX5 60 "BroadSheetModel" "least" "[I", Cond.fieldLink RX5 36 "BroadSheetModel" "setting" "[I", Cond.fieldLink RX5 7 "BroadSheetModel" "places" "I", Cond.fieldLink RX5 33 "BroadSheetModel" "base" "[I", Cond.fieldLink RX5 45 "BroadSheetModel" "main" "I", Cond.fieldLink RX5 106 "BroadSheetModel" "side" "I", Cond.methodLink RX5 75 yX5_in, Cond.static yX5_in, Cond.initialized RX5, Cond.code yX5_in cX5_in 3 (some .boolean), Cond.methodLink RX5 123 yX5_layLeast, Cond.instanceMethod yX5_layLeast, Cond.selects RX5 yX5_layLeast yX5_layLeast, Cond.code yX5_layLeast cX5_layLeast 10 none, Cond.methodLink RX5 99 yX5_size, Cond.static yX5_size, Cond.code yX5_size cX5_size 1 (some .int), Cond.methodLink RX5 119 yX5_goes, Cond.instanceMethod yX5_goes, Cond.selects RX5 yX5_goes yX5_goes, Cond.code yX5_goes cX5_goes 5 (some .boolean), Cond.fieldLink RX5 39 "BroadSheetModel" "next" "I", Cond.fieldLink RX5 42 "BroadSheetModel" "bend" "I", Cond.methodLink RX5 112 yX5_with]
def wsX5_best_r2 : List Cond := [Cond.static yX5_with, Cond.code yX5_with cX5_with 3 (some .int)]
def wsX5_best : List Cond := .code yX5_best cX5_best 11 (some .int) :: ((wsX5_best_r1 ++ wsX5_best_r2) ++ wsX50)
def wsX5_kind : List Cond := .code yX5_kind cX5_kind 4 (some .int) :: ([.fieldLink RX5 82 "BroadSheetModel" "kinds" "I", .fieldLink RX5 48 "BroadSheetModel" "width" "[I", .fieldLink RX5 51 "BroadSheetModel" "price" "[I", .fieldLink RX5 54 "BroadSheetModel" "bound" "[I", .methodLink RX5 75 yX5_in, .static yX5_in, .initialized RX5, .code yX5_in cX5_in 3 (some .boolean)] ++ wsX50)
def wsX5_lies : List Cond := .code yX5_lies cX5_lies 5 (some .boolean) :: ([.fieldLink RX5 48 "BroadSheetModel" "width" "[I", .fieldLink RX5 7 "BroadSheetModel" "places" "I", .fieldLink RX5 54 "BroadSheetModel" "bound" "[I", .methodLink RX5 109 yX5_error, .instanceMethod yX5_error, .selects RX5 yX5_error yX5_error, .initialized RX5, .code yX5_error cX5_error 4 (some .int), .fieldLink RX5 36 "BroadSheetModel" "setting" "[I", .fieldLink RX5 33 "BroadSheetModel" "base" "[I", .fieldLink RX5 45 "BroadSheetModel" "main" "I", .fieldLink RX5 106 "BroadSheetModel" "side" "I", .methodLink RX5 99 yX5_size, .static yX5_size, .code yX5_size cX5_size 1 (some .int)] ++ wsX50)
def wsX5_canLie_r1 : List Cond := [Cond.fieldLink RX5 82 "BroadSheetModel" "kinds" "I", Cond.methodLink RX5 75 yX5_in, Cond.static yX5_in, Cond.initialized RX5, Cond.code yX5_in cX5_in 3 (some .boolean), Cond.methodLink RX5 85 yX5_isPlace, Cond.instanceMethod yX5_isPlace, Cond.selects RX5 yX5_isPlace yX5_isPlace, Cond.code yX5_isPlace cX5_isPlace 2 (some .boolean), Cond.fieldLink RX5 7 "BroadSheetModel" "places" "I", Cond.methodLink RX5 127 yX5_lies, Cond.instanceMethod yX5_lies, Cond.selects RX5 yX5_lies yX5_lies, Cond.code yX5_lies cX5_lies 5 (some .boolean), Cond.fieldLink RX5 48 "BroadSheetModel" "width" "[I", Cond.fieldLink RX5 54 "BroadSheetModel" "bound" "[I", Cond.methodLink RX5 109 yX5_error, Cond.instanceMethod yX5_error, Cond.selects RX5 yX5_error yX5_error, Cond.code yX5_error cX5_error 4 (some .int), Cond.fieldLink RX5 36 "BroadSheetModel" "setting" "[I", Cond.fieldLink RX5 33 "BroadSheetModel" "base" "[I", Cond.fieldLink RX5 45 "BroadSheetModel" "main" "I", Cond.fieldLink RX5 106 "BroadSheetModel" "side" "I"]
def wsX5_canLie_r2 : List Cond := [Cond.methodLink RX5 99 yX5_size, Cond.static yX5_size, Cond.code yX5_size cX5_size 1 (some .int)]
def wsX5_canLie : List Cond := .code yX5_canLie cX5_canLie 3 (some .int) :: ((wsX5_canLie_r1 ++ wsX5_canLie_r2) ++ wsX50)
def wsX5_layCut : List Cond := .code yX5_layCut cX5_layCut 4 none :: ([.fieldLink RX5 63 "BroadSheetModel" "worth" "[I", .fieldLink RX5 7 "BroadSheetModel" "places" "I", .fieldLink RX5 66 "BroadSheetModel" "begins" "[I", .fieldLink RX5 82 "BroadSheetModel" "kinds" "I", .fieldLink RX5 51 "BroadSheetModel" "price" "[I", .fieldLink RX5 48 "BroadSheetModel" "width" "[I", .methodLink RX5 127 yX5_lies, .instanceMethod yX5_lies, .selects RX5 yX5_lies yX5_lies, .initialized RX5, .code yX5_lies cX5_lies 5 (some .boolean), .fieldLink RX5 54 "BroadSheetModel" "bound" "[I", .methodLink RX5 109 yX5_error, .instanceMethod yX5_error, .selects RX5 yX5_error yX5_error, .code yX5_error cX5_error 4 (some .int), .fieldLink RX5 36 "BroadSheetModel" "setting" "[I", .fieldLink RX5 33 "BroadSheetModel" "base" "[I", .fieldLink RX5 45 "BroadSheetModel" "main" "I", .fieldLink RX5 106 "BroadSheetModel" "side" "I", .methodLink RX5 99 yX5_size, .static yX5_size, .code yX5_size cX5_size 1 (some .int)] ++ wsX50)
def wsX5_cut_r1 : List Cond := [Cond.fieldLink RX5 63 "BroadSheetModel" "worth" "[I", Cond.methodLink RX5 130 yX5_layCut, Cond.instanceMethod yX5_layCut, Cond.selects RX5 yX5_layCut yX5_layCut, Cond.initialized RX5, Cond.code yX5_layCut cX5_layCut 4 none, Cond.fieldLink RX5 7 "BroadSheetModel" "places" "I", Cond.fieldLink RX5 66 "BroadSheetModel" "begins" "[I", Cond.fieldLink RX5 82 "BroadSheetModel" "kinds" "I", Cond.fieldLink RX5 51 "BroadSheetModel" "price" "[I", Cond.fieldLink RX5 48 "BroadSheetModel" "width" "[I", Cond.methodLink RX5 127 yX5_lies, Cond.instanceMethod yX5_lies, Cond.selects RX5 yX5_lies yX5_lies, Cond.code yX5_lies cX5_lies 5 (some .boolean), Cond.fieldLink RX5 54 "BroadSheetModel" "bound" "[I", Cond.methodLink RX5 109 yX5_error, Cond.instanceMethod yX5_error, Cond.selects RX5 yX5_error yX5_error, Cond.code yX5_error cX5_error 4 (some .int), Cond.fieldLink RX5 36 "BroadSheetModel" "setting" "[I", Cond.fieldLink RX5 33 "BroadSheetModel" "base" "[I", Cond.fieldLink RX5 45 "BroadSheetModel" "main" "I", Cond.fieldLink RX5 106 "BroadSheetModel" "side" "I"]
def wsX5_cut_r2 : List Cond := [Cond.methodLink RX5 99 yX5_size, Cond.static yX5_size, Cond.code yX5_size cX5_size 1 (some .int)]
def wsX5_cut : List Cond := .code yX5_cut cX5_cut 1 (some .int) :: ((wsX5_cut_r1 ++ wsX5_cut_r2) ++ wsX50)
def wsX5_cutAt_r1 : List Cond := [Cond.fieldLink RX5 66 "BroadSheetModel" "begins" "[I", Cond.fieldLink RX5 48 "BroadSheetModel" "width" "[I", Cond.methodLink RX5 85 yX5_isPlace, Cond.instanceMethod yX5_isPlace, Cond.selects RX5 yX5_isPlace yX5_isPlace, Cond.initialized RX5, Cond.code yX5_isPlace cX5_isPlace 2 (some .boolean), Cond.fieldLink RX5 7 "BroadSheetModel" "places" "I", Cond.methodLink RX5 75 yX5_in, Cond.static yX5_in, Cond.code yX5_in cX5_in 3 (some .boolean), Cond.methodLink RX5 130 yX5_layCut, Cond.instanceMethod yX5_layCut, Cond.selects RX5 yX5_layCut yX5_layCut, Cond.code yX5_layCut cX5_layCut 4 none, Cond.fieldLink RX5 63 "BroadSheetModel" "worth" "[I", Cond.fieldLink RX5 82 "BroadSheetModel" "kinds" "I", Cond.fieldLink RX5 51 "BroadSheetModel" "price" "[I", Cond.methodLink RX5 127 yX5_lies, Cond.instanceMethod yX5_lies, Cond.selects RX5 yX5_lies yX5_lies, Cond.code yX5_lies cX5_lies 5 (some .boolean), Cond.fieldLink RX5 54 "BroadSheetModel" "bound" "[I", Cond.methodLink RX5 109 yX5_error]
def wsX5_cutAt_r2 : List Cond := [Cond.instanceMethod yX5_error, Cond.selects RX5 yX5_error yX5_error, Cond.code yX5_error cX5_error 4 (some .int), Cond.fieldLink RX5 36 "BroadSheetModel" "setting" "[I", Cond.fieldLink RX5 33 "BroadSheetModel" "base" "[I", Cond.fieldLink RX5 45 "BroadSheetModel" "main" "I", Cond.fieldLink RX5 106 "BroadSheetModel" "side" "I", Cond.methodLink RX5 99 yX5_size, Cond.static yX5_size, Cond.code yX5_size cX5_size 1 (some .int)]
def wsX5_cutAt : List Cond := .code yX5_cutAt cX5_cutAt 3 (some .int) :: ((wsX5_cutAt_r1 ++ wsX5_cutAt_r2) ++ wsX50)
def wsX5_grade : List Cond := .code yX5_grade cX5_grade 2 (some .int) :: ([.fieldLink RX5 133 "BroadSheetModel" "grades" "I", .fieldLink RX5 57 "BroadSheetModel" "cost" "[I"] ++ wsX50)
def wsX5_isGrade : List Cond := .code yX5_isGrade cX5_isGrade 2 (some .boolean) :: ([.fieldLink RX5 133 "BroadSheetModel" "grades" "I", .methodLink RX5 75 yX5_in, .static yX5_in, .initialized RX5, .code yX5_in cX5_in 3 (some .boolean)] ++ wsX50)
def wsX5_cost : List Cond := .code yX5_cost cX5_cost 5 (some .int) :: ([.fieldLink RX5 57 "BroadSheetModel" "cost" "[I", .methodLink RX5 136 yX5_isGrade, .instanceMethod yX5_isGrade, .selects RX5 yX5_isGrade yX5_isGrade, .initialized RX5, .code yX5_isGrade cX5_isGrade 2 (some .boolean), .fieldLink RX5 133 "BroadSheetModel" "grades" "I", .methodLink RX5 75 yX5_in, .static yX5_in, .code yX5_in cX5_in 3 (some .boolean)] ++ wsX50)
def wsX5_layRest : List Cond := .code yX5_layRest cX5_layRest 6 none :: ([.fieldLink RX5 133 "BroadSheetModel" "grades" "I", .fieldLink RX5 57 "BroadSheetModel" "cost" "[I", .fieldLink RX5 69 "BroadSheetModel" "rest" "[I"] ++ wsX50)
def wsX5_tour : List Cond := .code yX5_tour cX5_tour 2 (some .int) :: ([.fieldLink RX5 69 "BroadSheetModel" "rest" "[I", .methodLink RX5 136 yX5_isGrade, .instanceMethod yX5_isGrade, .selects RX5 yX5_isGrade yX5_isGrade, .initialized RX5, .code yX5_isGrade cX5_isGrade 2 (some .boolean), .fieldLink RX5 133 "BroadSheetModel" "grades" "I", .methodLink RX5 75 yX5_in, .static yX5_in, .code yX5_in cX5_in 3 (some .boolean), .methodLink RX5 139 yX5_layRest, .instanceMethod yX5_layRest, .selects RX5 yX5_layRest yX5_layRest, .code yX5_layRest cX5_layRest 6 none, .fieldLink RX5 57 "BroadSheetModel" "cost" "[I"] ++ wsX50)
def wsX5_tourAt : List Cond := .code yX5_tourAt cX5_tourAt 7 (some .int) :: ([.fieldLink RX5 133 "BroadSheetModel" "grades" "I", .fieldLink RX5 57 "BroadSheetModel" "cost" "[I", .fieldLink RX5 69 "BroadSheetModel" "rest" "[I", .methodLink RX5 136 yX5_isGrade, .instanceMethod yX5_isGrade, .selects RX5 yX5_isGrade yX5_isGrade, .initialized RX5, .code yX5_isGrade cX5_isGrade 2 (some .boolean), .methodLink RX5 75 yX5_in, .static yX5_in, .code yX5_in cX5_in 3 (some .boolean), .methodLink RX5 139 yX5_layRest, .instanceMethod yX5_layRest, .selects RX5 yX5_layRest yX5_layRest, .code yX5_layRest cX5_layRest 6 none] ++ wsX50)
def wsX5_fitting : List Cond := .code yX5_fitting cX5_fitting 3 (some .int) :: ([.fieldLink RX5 79 "BroadSheetModel" "readings" "I", .fieldLink RX5 23 "BroadSheetModel" "fits" "[Z"] ++ wsX50)
def wsX5_told : List Cond := .code yX5_told cX5_told 2 (some .int) :: ([.fieldLink RX5 7 "BroadSheetModel" "places" "I", .fieldLink RX5 79 "BroadSheetModel" "readings" "I", .fieldLink RX5 82 "BroadSheetModel" "kinds" "I", .fieldLink RX5 133 "BroadSheetModel" "grades" "I", .fieldLink RX5 39 "BroadSheetModel" "next" "I", .fieldLink RX5 42 "BroadSheetModel" "bend" "I", .fieldLink RX5 45 "BroadSheetModel" "main" "I", .fieldLink RX5 106 "BroadSheetModel" "side" "I", .methodLink RX5 142 yX5_fitting, .instanceMethod yX5_fitting, .selects RX5 yX5_fitting yX5_fitting, .initialized RX5, .code yX5_fitting cX5_fitting 3 (some .int), .fieldLink RX5 23 "BroadSheetModel" "fits" "[Z"] ++ wsX50)
def wsJ9_abs_0f7a4 : List Cond := .code yJ9_abs_0f7a4 cJ9_abs_0f7a4 1 (some .int) :: ([])
def wsJ9_max_7cf53 : List Cond := .code yJ9_max_7cf53 cJ9_max_7cf53 2 (some .int) :: ([])
def wsJ9_min_7cf53 : List Cond := .code yJ9_min_7cf53 cJ9_min_7cf53 2 (some .int) :: ([])
def wsL_law_r1 : List Cond := [Cond.classLink RL 7 RX4, Cond.instantiable RX4 4, Cond.initialized RX4, Cond.classLink RL 10 RX5, Cond.instantiable RX5 24, Cond.initialized RX5, Cond.methodLink RL 9 yX4_init, Cond.instanceMethod yX4_init, Cond.code yX4_init cX4_init 1 none, Cond.methodLink RX4 1 objectInit, Cond.instanceMethod objectInit, Cond.code objectInit ⟨#[0xb1]⟩ 1 none, Cond.classLink RX4 7 RX0, Cond.instantiable RX0 8, Cond.initialized RX0, Cond.fieldLink RX4 10 "BroadSheet" "eye" "LBroadSheet$Eye;", Cond.classLink RX4 16 RX2, Cond.instantiable RX2 8, Cond.initialized RX2, Cond.fieldLink RX4 19 "BroadSheet" "lips" "LBroadSheet$Lips;", Cond.classLink RX4 23 RX3, Cond.instantiable RX3 7, Cond.initialized RX3, Cond.fieldLink RX4 28 "BroadSheet" "sets" "LBroadSheet$Sets;"]
def wsL_law_r2 : List Cond := [Cond.classLink RX4 32 RX1, Cond.instantiable RX1 4, Cond.initialized RX1, Cond.fieldLink RX4 35 "BroadSheet" "grades" "LBroadSheet$Grades;", Cond.methodLink RX4 9 yX0_init, Cond.instanceMethod yX0_init, Cond.code yX0_init cX0_init 1 none, Cond.methodLink RX0 3 objectInit, Cond.arrayClass .int, Cond.fieldLink RX0 9 "BroadSheet$Eye" "times" "[I", Cond.fieldLink RX0 15 "BroadSheet$Eye" "places" "[I", Cond.fieldLink RX0 18 "BroadSheet$Eye" "values" "[I", Cond.arrayClass .boolean, Cond.fieldLink RX0 21 "BroadSheet$Eye" "fitting" "[Z", Cond.fieldLink RX0 25 "BroadSheet$Eye" "group" "[I", Cond.fieldLink RX0 28 "BroadSheet$Eye" "height" "[I", Cond.methodLink RX0 31 yX0_forget, Cond.instanceMethod yX0_forget, Cond.selects RX0 yX0_forget yX0_forget, Cond.code yX0_forget cX0_forget 2 none, Cond.fieldLink RX0 34 "BroadSheet$Eye" "count" "I", Cond.fieldLink RX0 38 "BroadSheet$Eye" "fittingCount" "I", Cond.methodLink RX4 18 yX2_init, Cond.instanceMethod yX2_init]
def wsL_law_r3 : List Cond := [Cond.code yX2_init cX2_init 1 none, Cond.methodLink RX2 3 objectInit, Cond.fieldLink RX2 9 "BroadSheet$Lips" "bases" "[I", Cond.fieldLink RX2 15 "BroadSheet$Lips" "settings" "[I", Cond.fieldLink RX2 18 "BroadSheet$Lips" "places" "I", Cond.fieldLink RX2 22 "BroadSheet$Lips" "next" "I", Cond.fieldLink RX2 25 "BroadSheet$Lips" "bend" "I", Cond.fieldLink RX2 28 "BroadSheet$Lips" "main" "I", Cond.fieldLink RX2 31 "BroadSheet$Lips" "rest" "[I", Cond.methodLink RX4 25 yX3_init, Cond.instanceMethod yX3_init, Cond.code yX3_init cX3_init 2 none, Cond.methodLink RX3 3 objectInit, Cond.fieldLink RX3 9 "BroadSheet$Sets" "widths" "[I", Cond.fieldLink RX3 15 "BroadSheet$Sets" "prices" "[I", Cond.fieldLink RX3 18 "BroadSheet$Sets" "bounds" "[I", Cond.fieldLink RX3 21 "BroadSheet$Sets" "worth" "[I", Cond.fieldLink RX3 24 "BroadSheet$Sets" "begins" "[I", Cond.fieldLink RX3 27 "BroadSheet$Sets" "lips" "LBroadSheet$Lips;", Cond.methodLink RX4 34 yX1_init, Cond.instanceMethod yX1_init, Cond.code yX1_init cX1_init 1 none, Cond.methodLink RX1 3 objectInit, Cond.fieldLink RX1 9 "BroadSheet$Grades" "costs" "[I"]
def wsL_law_r4 : List Cond := [Cond.fieldLink RX1 15 "BroadSheet$Grades" "rest" "[I", Cond.methodLink RX1 18 yJ7_fill_53178, Cond.static yJ7_fill_53178, Cond.initialized RJ7, Cond.code yJ7_fill_53178 cJ7_fill_53178 4 none, Cond.methodLink RL 12 yX5_init, Cond.instanceMethod yX5_init, Cond.code yX5_init cX5_init 1 none, Cond.methodLink RX5 1 objectInit, Cond.fieldLink RX5 7 "BroadSheetModel" "places" "I", Cond.fieldLink RX5 13 "BroadSheetModel" "time" "[I", Cond.fieldLink RX5 17 "BroadSheetModel" "place" "[I", Cond.fieldLink RX5 20 "BroadSheetModel" "value" "[I", Cond.fieldLink RX5 23 "BroadSheetModel" "fits" "[Z", Cond.fieldLink RX5 27 "BroadSheetModel" "group" "[I", Cond.fieldLink RX5 30 "BroadSheetModel" "more" "[I", Cond.fieldLink RX5 33 "BroadSheetModel" "base" "[I", Cond.fieldLink RX5 36 "BroadSheetModel" "setting" "[I", Cond.fieldLink RX5 39 "BroadSheetModel" "next" "I", Cond.fieldLink RX5 42 "BroadSheetModel" "bend" "I", Cond.fieldLink RX5 45 "BroadSheetModel" "main" "I", Cond.fieldLink RX5 48 "BroadSheetModel" "width" "[I", Cond.fieldLink RX5 51 "BroadSheetModel" "price" "[I", Cond.fieldLink RX5 54 "BroadSheetModel" "bound" "[I"]
def wsL_law_r5 : List Cond := [Cond.fieldLink RX5 57 "BroadSheetModel" "cost" "[I", Cond.fieldLink RX5 60 "BroadSheetModel" "least" "[I", Cond.fieldLink RX5 63 "BroadSheetModel" "worth" "[I", Cond.fieldLink RX5 66 "BroadSheetModel" "begins" "[I", Cond.fieldLink RX5 69 "BroadSheetModel" "rest" "[I", Cond.methodLink RX5 72 yX5_begin, Cond.instanceMethod yX5_begin, Cond.selects RX5 yX5_begin yX5_begin, Cond.code yX5_begin cX5_begin 2 none, Cond.fieldLink RX5 79 "BroadSheetModel" "readings" "I", Cond.methodLink RL 13 yX4_sheet, Cond.instanceMethod yX4_sheet, Cond.selects RX4 yX4_sheet yX4_sheet, Cond.code yX4_sheet cX4_sheet 3 (some .int), Cond.methodLink RX4 39 yX4_within, Cond.static yX4_within, Cond.code yX4_within cX4_within 3 (some .boolean), Cond.methodLink RX4 43 yX2_places, Cond.instanceMethod yX2_places, Cond.selects RX2 yX2_places yX2_places, Cond.code yX2_places cX2_places 1 (some .int), Cond.methodLink RX4 47 yX0_forget, Cond.methodLink RX4 50 yX3_forget, Cond.instanceMethod yX3_forget]
def wsL_law_r6 : List Cond := [Cond.selects RX3 yX3_forget yX3_forget, Cond.code yX3_forget cX3_forget 1 none, Cond.fieldLink RX3 31 "BroadSheet$Sets" "count" "I", Cond.methodLink RX4 51 yX2_renew, Cond.instanceMethod yX2_renew, Cond.selects RX2 yX2_renew yX2_renew, Cond.code yX2_renew cX2_renew 2 none, Cond.methodLink RX2 34 yJ7_fill_53178, Cond.methodLink RL 17 yX5_sheet, Cond.instanceMethod yX5_sheet, Cond.selects RX5 yX5_sheet yX5_sheet, Cond.code yX5_sheet cX5_sheet 4 (some .int), Cond.fieldLink RX5 82 "BroadSheetModel" "kinds" "I", Cond.methodLink RX5 75 yX5_in, Cond.static yX5_in, Cond.code yX5_in cX5_in 3 (some .boolean), Cond.methodLink RL 18 yX4_read, Cond.instanceMethod yX4_read, Cond.selects RX4 yX4_read yX4_read, Cond.code yX4_read cX4_read 4 (some .int), Cond.methodLink RX4 55 yX4_isPlace, Cond.instanceMethod yX4_isPlace, Cond.selects RX4 yX4_isPlace yX4_isPlace, Cond.code yX4_isPlace cX4_isPlace 2 (some .boolean)]
def wsL_law_r7 : List Cond := [Cond.methodLink RX4 59 yX4_isTime, Cond.static yX4_isTime, Cond.code yX4_isTime cX4_isTime 1 (some .boolean), Cond.methodLink RX4 62 yX0_count, Cond.instanceMethod yX0_count, Cond.selects RX0 yX0_count yX0_count, Cond.code yX0_count cX0_count 1 (some .int), Cond.methodLink RX4 65 yX0_add, Cond.instanceMethod yX0_add, Cond.selects RX0 yX0_add yX0_add, Cond.code yX0_add cX0_add 5 (some .boolean), Cond.methodLink RX0 41 yX0_knotOfTime, Cond.static yX0_knotOfTime, Cond.code yX0_knotOfTime cX0_knotOfTime 1 (some .int), Cond.methodLink RX0 45 yX0_fit, Cond.instanceMethod yX0_fit, Cond.selects RX0 yX0_fit yX0_fit, Cond.code yX0_fit cX0_fit 8 (some .boolean), Cond.methodLink RL 22 yX5_read, Cond.instanceMethod yX5_read, Cond.selects RX5 yX5_read yX5_read, Cond.code yX5_read cX5_read 10 (some .int), Cond.methodLink RX5 85 yX5_isPlace, Cond.instanceMethod yX5_isPlace]
def wsL_law_r8 : List Cond := [Cond.selects RX5 yX5_isPlace yX5_isPlace, Cond.code yX5_isPlace cX5_isPlace 2 (some .boolean), Cond.methodLink RL 23 yX4_reading, Cond.instanceMethod yX4_reading, Cond.selects RX4 yX4_reading yX4_reading, Cond.code yX4_reading cX4_reading 3 (some .int), Cond.constant RX4 68 (-1000001), Cond.constant RX4 82 (-1000002), Cond.methodLink RX4 69 yX0_timeOf, Cond.instanceMethod yX0_timeOf, Cond.selects RX0 yX0_timeOf yX0_timeOf, Cond.code yX0_timeOf cX0_timeOf 2 (some .int), Cond.methodLink RX4 73 yX0_placeOf, Cond.instanceMethod yX0_placeOf, Cond.selects RX0 yX0_placeOf yX0_placeOf, Cond.code yX0_placeOf cX0_placeOf 2 (some .int), Cond.methodLink RX4 76 yX0_valueOf, Cond.instanceMethod yX0_valueOf, Cond.selects RX0 yX0_valueOf yX0_valueOf, Cond.code yX0_valueOf cX0_valueOf 2 (some .int), Cond.methodLink RX4 79 yX0_isFitting, Cond.instanceMethod yX0_isFitting, Cond.selects RX0 yX0_isFitting yX0_isFitting, Cond.code yX0_isFitting cX0_isFitting 2 (some .boolean)]
def wsL_law_r9 : List Cond := [Cond.methodLink RL 27 yX5_reading, Cond.instanceMethod yX5_reading, Cond.selects RX5 yX5_reading yX5_reading, Cond.code yX5_reading cX5_reading 3 (some .int), Cond.constant RX5 89 (-1000001), Cond.constant RX5 90 (-1000002), Cond.methodLink RL 28 yX4_across, Cond.instanceMethod yX4_across, Cond.selects RX4 yX4_across yX4_across, Cond.code yX4_across cX4_across 2 (some .int), Cond.constant RX4 89 (-1000005), Cond.methodLink RX4 83 yX0_hasAcross, Cond.instanceMethod yX0_hasAcross, Cond.selects RX0 yX0_hasAcross yX0_hasAcross, Cond.code yX0_hasAcross cX0_hasAcross 2 (some .boolean), Cond.methodLink RX4 86 yX0_acrossOf, Cond.instanceMethod yX0_acrossOf, Cond.selects RX0 yX0_acrossOf yX0_acrossOf, Cond.code yX0_acrossOf cX0_acrossOf 2 (some .int), Cond.methodLink RL 31 yX5_across, Cond.instanceMethod yX5_across, Cond.selects RX5 yX5_across yX5_across, Cond.code yX5_across cX5_across 2 (some .int), Cond.constant RX5 98 (-1000005)]
def wsL_law_r10 : List Cond := [Cond.methodLink RX5 91 yX5_isAcross, Cond.instanceMethod yX5_isAcross, Cond.selects RX5 yX5_isAcross yX5_isAcross, Cond.code yX5_isAcross cX5_isAcross 2 (some .boolean), Cond.methodLink RX5 94 yX5_acrossOf, Cond.instanceMethod yX5_acrossOf, Cond.selects RX5 yX5_acrossOf yX5_acrossOf, Cond.code yX5_acrossOf cX5_acrossOf 2 (some .int), Cond.methodLink RL 32 yX4_along, Cond.instanceMethod yX4_along, Cond.selects RX4 yX4_along yX4_along, Cond.code yX4_along cX4_along 3 (some .int), Cond.methodLink RX4 90 yX0_timesHangTogether, Cond.instanceMethod yX0_timesHangTogether, Cond.selects RX0 yX0_timesHangTogether yX0_timesHangTogether, Cond.code yX0_timesHangTogether cX0_timesHangTogether 3 (some .boolean), Cond.methodLink RX4 94 yX0_moreAlong, Cond.instanceMethod yX0_moreAlong, Cond.selects RX0 yX0_moreAlong yX0_moreAlong, Cond.code yX0_moreAlong cX0_moreAlong 3 (some .int), Cond.methodLink RL 35 yX5_along, Cond.instanceMethod yX5_along, Cond.selects RX5 yX5_along yX5_along, Cond.code yX5_along cX5_along 3 (some .int)]
def wsL_law_r11 : List Cond := [Cond.methodLink RL 36 yX4_groups, Cond.instanceMethod yX4_groups, Cond.selects RX4 yX4_groups yX4_groups, Cond.code yX4_groups cX4_groups 1 (some .int), Cond.methodLink RX4 98 yX0_countGroups, Cond.instanceMethod yX0_countGroups, Cond.selects RX0 yX0_countGroups yX0_countGroups, Cond.code yX0_countGroups cX0_countGroups 4 (some .int), Cond.methodLink RX0 49 yX0_isFirstOfGroup, Cond.instanceMethod yX0_isFirstOfGroup, Cond.selects RX0 yX0_isFirstOfGroup yX0_isFirstOfGroup, Cond.code yX0_isFirstOfGroup cX0_isFirstOfGroup 3 (some .boolean), Cond.methodLink RL 40 yX5_groups, Cond.instanceMethod yX5_groups, Cond.selects RX5 yX5_groups yX5_groups, Cond.code yX5_groups cX5_groups 5 (some .int), Cond.methodLink RL 41 yX4_take, Cond.instanceMethod yX4_take, Cond.selects RX4 yX4_take yX4_take, Cond.code yX4_take cX4_take 3 (some .int), Cond.methodLink RX4 101 yX2_putBase, Cond.instanceMethod yX2_putBase, Cond.selects RX2 yX2_putBase yX2_putBase, Cond.code yX2_putBase cX2_putBase 3 none]
def wsL_law_r12 : List Cond := [Cond.methodLink RL 44 yX5_take, Cond.instanceMethod yX5_take, Cond.selects RX5 yX5_take yX5_take, Cond.code yX5_take cX5_take 2 (some .int), Cond.methodLink RL 45 yX4_clear, Cond.instanceMethod yX4_clear, Cond.selects RX4 yX4_clear yX4_clear, Cond.code yX4_clear cX4_clear 2 (some .int), Cond.methodLink RL 48 yX5_clear, Cond.instanceMethod yX5_clear, Cond.selects RX5 yX5_clear yX5_clear, Cond.code yX5_clear cX5_clear 2 (some .int), Cond.methodLink RL 49 yX4_laws, Cond.instanceMethod yX4_laws, Cond.selects RX4 yX4_laws yX4_laws, Cond.code yX4_laws cX4_laws 3 (some .int), Cond.methodLink RX4 105 yX2_isLawful, Cond.instanceMethod yX2_isLawful, Cond.selects RX2 yX2_isLawful yX2_isLawful, Cond.code yX2_isLawful cX2_isLawful 4 (some .boolean), Cond.methodLink RX2 47 Lib.Math.abs.name, Cond.static Lib.Math.abs.name, Cond.initialized "java/lang/Math", Cond.code Lib.Math.abs.name Lib.Math.abs.code 1 (some .int)]
def wsL_law_r13 : List Cond := [Cond.methodLink RX4 108 yX2_putLaws, Cond.instanceMethod yX2_putLaws, Cond.selects RX2 yX2_putLaws yX2_putLaws, Cond.code yX2_putLaws cX2_putLaws 3 none, Cond.methodLink RL 52 yX5_laws, Cond.instanceMethod yX5_laws, Cond.selects RX5 yX5_laws yX5_laws, Cond.code yX5_laws cX5_laws 3 (some .int), Cond.methodLink RX5 102 yX5_areLawful, Cond.instanceMethod yX5_areLawful, Cond.selects RX5 yX5_areLawful yX5_areLawful, Cond.code yX5_areLawful cX5_areLawful 5 (some .boolean), Cond.methodLink RX5 99 yX5_size, Cond.static yX5_size, Cond.code yX5_size cX5_size 1 (some .int), Cond.methodLink RL 53 yX4_spread, Cond.instanceMethod yX4_spread, Cond.selects RX4 yX4_spread yX4_spread, Cond.code yX4_spread cX4_spread 3 (some .int), Cond.methodLink RX4 111 yX2_putSpread, Cond.instanceMethod yX2_putSpread, Cond.selects RX2 yX2_putSpread yX2_putSpread, Cond.code yX2_putSpread cX2_putSpread 3 none, Cond.fieldLink RX2 40 "BroadSheet$Lips" "side" "I"]
def wsL_law_r14 : List Cond := [Cond.methodLink RL 56 yX5_spread, Cond.instanceMethod yX5_spread, Cond.selects RX5 yX5_spread yX5_spread, Cond.code yX5_spread cX5_spread 3 (some .int), Cond.fieldLink RX5 106 "BroadSheetModel" "side" "I", Cond.methodLink RL 57 yX4_base, Cond.instanceMethod yX4_base, Cond.selects RX4 yX4_base yX4_base, Cond.code yX4_base cX4_base 3 (some .int), Cond.methodLink RL 60 yX5_base, Cond.instanceMethod yX5_base, Cond.selects RX5 yX5_base yX5_base, Cond.code yX5_base cX5_base 3 (some .int), Cond.methodLink RL 61 yX4_set, Cond.instanceMethod yX4_set, Cond.selects RX4 yX4_set yX4_set, Cond.code yX4_set cX4_set 3 (some .int), Cond.methodLink RX4 114 yX2_trySetting, Cond.instanceMethod yX2_trySetting, Cond.selects RX2 yX2_trySetting yX2_trySetting, Cond.code yX2_trySetting cX2_trySetting 4 (some .boolean), Cond.methodLink RX2 43 yX2_isLawful, Cond.methodLink RL 64 yX5_set, Cond.instanceMethod yX5_set]
def wsL_law_r15 : List Cond := [Cond.selects RX5 yX5_set yX5_set, Cond.code yX5_set cX5_set 4 (some .int), Cond.methodLink RL 65 yX4_about, Cond.instanceMethod yX4_about, Cond.selects RX4 yX4_about yX4_about, Cond.code yX4_about cX4_about 3 (some .int), Cond.methodLink RX4 117 yX2_settingOf, Cond.instanceMethod yX2_settingOf, Cond.selects RX2 yX2_settingOf yX2_settingOf, Cond.code yX2_settingOf cX2_settingOf 2 (some .int), Cond.methodLink RX4 120 yX2_baseOf, Cond.instanceMethod yX2_baseOf, Cond.selects RX2 yX2_baseOf yX2_baseOf, Cond.code yX2_baseOf cX2_baseOf 2 (some .int), Cond.methodLink RX4 123 yX2_errorOf, Cond.instanceMethod yX2_errorOf, Cond.selects RX2 yX2_errorOf yX2_errorOf, Cond.code yX2_errorOf cX2_errorOf 3 (some .int), Cond.methodLink RL 68 yX5_about, Cond.instanceMethod yX5_about, Cond.selects RX5 yX5_about yX5_about, Cond.code yX5_about cX5_about 3 (some .int), Cond.methodLink RX5 109 yX5_error, Cond.instanceMethod yX5_error]
def wsL_law_r16 : List Cond := [Cond.selects RX5 yX5_error yX5_error, Cond.code yX5_error cX5_error 4 (some .int), Cond.methodLink RL 69 yX4_uneven, Cond.instanceMethod yX4_uneven, Cond.selects RX4 yX4_uneven yX4_uneven, Cond.code yX4_uneven cX4_uneven 2 (some .int), Cond.methodLink RX4 126 yX2_unevenness, Cond.instanceMethod yX2_unevenness, Cond.selects RX2 yX2_unevenness yX2_unevenness, Cond.code yX2_unevenness cX2_unevenness 4 (some .int), Cond.methodLink RX2 56 yX2_sizeOf, Cond.instanceMethod yX2_sizeOf, Cond.selects RX2 yX2_sizeOf yX2_sizeOf, Cond.code yX2_sizeOf cX2_sizeOf 2 (some .int), Cond.methodLink RX2 53 yX2_errorOf, Cond.methodLink RX2 59 yX2_together, Cond.static yX2_together, Cond.code yX2_together cX2_together 3 (some .int), Cond.methodLink RX2 63 Lib.Math.max.name, Cond.static Lib.Math.max.name, Cond.code Lib.Math.max.name Lib.Math.max.code 2 (some .int), Cond.methodLink RL 72 yX5_uneven, Cond.instanceMethod yX5_uneven, Cond.selects RX5 yX5_uneven yX5_uneven]
def wsL_law_r17 : List Cond := [Cond.code yX5_uneven cX5_uneven 2 (some .int), Cond.methodLink RX5 116 yX5_unevenOf, Cond.instanceMethod yX5_unevenOf, Cond.selects RX5 yX5_unevenOf yX5_unevenOf, Cond.code yX5_unevenOf cX5_unevenOf 4 (some .int), Cond.methodLink RX5 112 yX5_with, Cond.static yX5_with, Cond.code yX5_with cX5_with 3 (some .int), Cond.methodLink RL 73 yX4_best, Cond.instanceMethod yX4_best, Cond.selects RX4 yX4_best yX4_best, Cond.code yX4_best cX4_best 2 (some .int), Cond.methodLink RX4 130 yX2_settle, Cond.instanceMethod yX2_settle, Cond.selects RX2 yX2_settle yX2_settle, Cond.code yX2_settle cX2_settle 5 (some .int), Cond.methodLink RX2 67 yX2_weighLast, Cond.instanceMethod yX2_weighLast, Cond.selects RX2 yX2_weighLast yX2_weighLast, Cond.code yX2_weighLast cX2_weighLast 4 none, Cond.methodLink RX2 82 yX2_spot, Cond.static yX2_spot, Cond.code yX2_spot cX2_spot 3 (some .int), Cond.methodLink RX2 70 yX2_weigh]
def wsL_law_r18 : List Cond := [Cond.instanceMethod yX2_weigh, Cond.selects RX2 yX2_weigh yX2_weigh, Cond.code yX2_weigh cX2_weigh 7 none, Cond.methodLink RX2 86 Lib.Math.min.name, Cond.static Lib.Math.min.name, Cond.code Lib.Math.min.name Lib.Math.min.code 2 (some .int), Cond.methodLink RX2 89 yX2_leastRest, Cond.instanceMethod yX2_leastRest, Cond.selects RX2 yX2_leastRest yX2_leastRest, Cond.code yX2_leastRest cX2_leastRest 14 (some .int), Cond.constant RX2 92 (1000000), Cond.methodLink RX2 93 yX2_highestAfter, Cond.instanceMethod yX2_highestAfter, Cond.selects RX2 yX2_highestAfter yX2_highestAfter, Cond.code yX2_highestAfter cX2_highestAfter 3 (some .int), Cond.methodLink RX2 96 yX2_lowestAfter, Cond.instanceMethod yX2_lowestAfter, Cond.selects RX2 yX2_lowestAfter yX2_lowestAfter, Cond.code yX2_lowestAfter cX2_lowestAfter 3 (some .int), Cond.methodLink RX2 74 yX2_settleFirstTwo, Cond.instanceMethod yX2_settleFirstTwo, Cond.selects RX2 yX2_settleFirstTwo yX2_settleFirstTwo, Cond.code yX2_settleFirstTwo cX2_settleFirstTwo 8 (some .int), Cond.methodLink RX2 78 yX2_lesserAfter]
def wsL_law_r19 : List Cond := [Cond.instanceMethod yX2_lesserAfter, Cond.selects RX2 yX2_lesserAfter yX2_lesserAfter, Cond.code yX2_lesserAfter cX2_lesserAfter 12 (some .int), Cond.methodLink RL 76 yX5_best, Cond.instanceMethod yX5_best, Cond.selects RX5 yX5_best yX5_best, Cond.code yX5_best cX5_best 11 (some .int), Cond.methodLink RX5 123 yX5_layLeast, Cond.instanceMethod yX5_layLeast, Cond.selects RX5 yX5_layLeast yX5_layLeast, Cond.code yX5_layLeast cX5_layLeast 10 none, Cond.methodLink RX5 119 yX5_goes, Cond.instanceMethod yX5_goes, Cond.selects RX5 yX5_goes yX5_goes, Cond.code yX5_goes cX5_goes 5 (some .boolean), Cond.methodLink RL 77 yX4_kind, Cond.instanceMethod yX4_kind, Cond.selects RX4 yX4_kind yX4_kind, Cond.code yX4_kind cX4_kind 4 (some .int), Cond.methodLink RX4 133 yX3_count, Cond.instanceMethod yX3_count, Cond.selects RX3 yX3_count yX3_count, Cond.code yX3_count cX3_count 1 (some .int), Cond.methodLink RX4 134 yX3_add]
def wsL_law_r20 : List Cond := [Cond.instanceMethod yX3_add, Cond.selects RX3 yX3_add yX3_add, Cond.code yX3_add cX3_add 4 (some .int), Cond.methodLink RL 80 yX5_kind, Cond.instanceMethod yX5_kind, Cond.selects RX5 yX5_kind yX5_kind, Cond.code yX5_kind cX5_kind 4 (some .int), Cond.methodLink RL 81 yX4_canLie, Cond.instanceMethod yX4_canLie, Cond.selects RX4 yX4_canLie yX4_canLie, Cond.code yX4_canLie cX4_canLie 3 (some .int), Cond.methodLink RX4 137 yX3_lies, Cond.instanceMethod yX3_lies, Cond.selects RX3 yX3_lies yX3_lies, Cond.code yX3_lies cX3_lies 5 (some .boolean), Cond.methodLink RX3 35 yX2_places, Cond.methodLink RX3 41 yX2_sizeOf, Cond.methodLink RL 84 yX5_canLie, Cond.instanceMethod yX5_canLie, Cond.selects RX5 yX5_canLie yX5_canLie, Cond.code yX5_canLie cX5_canLie 3 (some .int), Cond.methodLink RX5 127 yX5_lies, Cond.instanceMethod yX5_lies, Cond.selects RX5 yX5_lies yX5_lies]
def wsL_law_r21 : List Cond := [Cond.code yX5_lies cX5_lies 5 (some .boolean), Cond.methodLink RL 85 yX4_cut, Cond.instanceMethod yX4_cut, Cond.selects RX4 yX4_cut yX4_cut, Cond.code yX4_cut cX4_cut 1 (some .int), Cond.methodLink RX4 140 yX3_plan, Cond.instanceMethod yX3_plan, Cond.selects RX3 yX3_plan yX3_plan, Cond.code yX3_plan cX3_plan 3 (some .int), Cond.methodLink RX3 45 yX3_weigh, Cond.instanceMethod yX3_weigh, Cond.selects RX3 yX3_weigh yX3_weigh, Cond.code yX3_weigh cX3_weigh 6 none, Cond.methodLink RX3 52 yX3_lies, Cond.methodLink RX3 49 yX3_dropCovered, Cond.instanceMethod yX3_dropCovered, Cond.selects RX3 yX3_dropCovered yX3_dropCovered, Cond.code yX3_dropCovered cX3_dropCovered 4 none, Cond.methodLink RL 88 yX5_cut, Cond.instanceMethod yX5_cut, Cond.selects RX5 yX5_cut yX5_cut, Cond.code yX5_cut cX5_cut 1 (some .int), Cond.methodLink RX5 130 yX5_layCut, Cond.instanceMethod yX5_layCut]
def wsL_law_r22 : List Cond := [Cond.selects RX5 yX5_layCut yX5_layCut, Cond.code yX5_layCut cX5_layCut 4 none, Cond.methodLink RL 89 yX4_cutAt, Cond.instanceMethod yX4_cutAt, Cond.selects RX4 yX4_cutAt yX4_cutAt, Cond.code yX4_cutAt cX4_cutAt 2 (some .int), Cond.methodLink RX4 143 yX3_plannedAt, Cond.instanceMethod yX3_plannedAt, Cond.selects RX3 yX3_plannedAt yX3_plannedAt, Cond.code yX3_plannedAt cX3_plannedAt 2 (some .int), Cond.methodLink RL 92 yX5_cutAt, Cond.instanceMethod yX5_cutAt, Cond.selects RX5 yX5_cutAt yX5_cutAt, Cond.code yX5_cutAt cX5_cutAt 3 (some .int), Cond.methodLink RL 93 yX4_grade, Cond.instanceMethod yX4_grade, Cond.selects RX4 yX4_grade yX4_grade, Cond.code yX4_grade cX4_grade 1 (some .int), Cond.methodLink RX4 146 yX1_count, Cond.instanceMethod yX1_count, Cond.selects RX1 yX1_count yX1_count, Cond.code yX1_count cX1_count 1 (some .int), Cond.fieldLink RX1 24 "BroadSheet$Grades" "count" "I", Cond.methodLink RX4 147 yX1_add]
def wsL_law_r23 : List Cond := [Cond.instanceMethod yX1_add, Cond.selects RX1 yX1_add yX1_add, Cond.code yX1_add cX1_add 1 (some .int), Cond.fieldLink RX1 28 "BroadSheet$Grades" "weighed" "Z", Cond.methodLink RL 96 yX5_grade, Cond.instanceMethod yX5_grade, Cond.selects RX5 yX5_grade yX5_grade, Cond.code yX5_grade cX5_grade 2 (some .int), Cond.fieldLink RX5 133 "BroadSheetModel" "grades" "I", Cond.methodLink RL 97 yX4_cost, Cond.instanceMethod yX4_cost, Cond.selects RX4 yX4_cost yX4_cost, Cond.code yX4_cost cX4_cost 4 (some .int), Cond.methodLink RX4 149 yX4_isGrade, Cond.instanceMethod yX4_isGrade, Cond.selects RX4 yX4_isGrade yX4_isGrade, Cond.code yX4_isGrade cX4_isGrade 2 (some .boolean), Cond.methodLink RX4 152 yX1_putCost, Cond.instanceMethod yX1_putCost, Cond.selects RX1 yX1_putCost yX1_putCost, Cond.code yX1_putCost cX1_putCost 5 (some .int), Cond.methodLink RX1 32 yX1_costOf, Cond.instanceMethod yX1_costOf, Cond.selects RX1 yX1_costOf yX1_costOf]
def wsL_law_r24 : List Cond := [Cond.code yX1_costOf cX1_costOf 3 (some .int), Cond.methodLink RL 100 yX5_cost, Cond.instanceMethod yX5_cost, Cond.selects RX5 yX5_cost yX5_cost, Cond.code yX5_cost cX5_cost 5 (some .int), Cond.methodLink RX5 136 yX5_isGrade, Cond.instanceMethod yX5_isGrade, Cond.selects RX5 yX5_isGrade yX5_isGrade, Cond.code yX5_isGrade cX5_isGrade 2 (some .boolean), Cond.methodLink RL 101 yX4_tour, Cond.instanceMethod yX4_tour, Cond.selects RX4 yX4_tour yX4_tour, Cond.code yX4_tour cX4_tour 2 (some .int), Cond.methodLink RX4 155 yX1_leastCosts, Cond.instanceMethod yX1_leastCosts, Cond.selects RX1 yX1_leastCosts yX1_leastCosts, Cond.code yX1_leastCosts cX1_leastCosts 2 (some .int), Cond.methodLink RX1 36 yX1_weighAll, Cond.instanceMethod yX1_weighAll, Cond.selects RX1 yX1_weighAll yX1_weighAll, Cond.code yX1_weighAll cX1_weighAll 3 none, Cond.methodLink RX1 52 yX1_has, Cond.static yX1_has, Cond.code yX1_has cX1_has 2 (some .boolean)]
def wsL_law_r25 : List Cond := [Cond.methodLink RX1 46 yX1_lesserStep, Cond.instanceMethod yX1_lesserStep, Cond.selects RX1 yX1_lesserStep yX1_lesserStep, Cond.code yX1_lesserStep cX1_lesserStep 7 (some .int), Cond.constant RX1 60 (1000000), Cond.methodLink RX1 56 yX1_throughStep, Cond.instanceMethod yX1_throughStep, Cond.selects RX1 yX1_throughStep yX1_throughStep, Cond.code yX1_throughStep cX1_throughStep 4 (some .int), Cond.methodLink RX1 49 yX1_without, Cond.static yX1_without, Cond.code yX1_without cX1_without 2 (some .int), Cond.methodLink RX1 43 yX1_restOf, Cond.instanceMethod yX1_restOf, Cond.selects RX1 yX1_restOf yX1_restOf, Cond.code yX1_restOf cX1_restOf 3 (some .int), Cond.methodLink RX1 39 yX1_allBut, Cond.instanceMethod yX1_allBut, Cond.selects RX1 yX1_allBut yX1_allBut, Cond.code yX1_allBut cX1_allBut 2 (some .int), Cond.methodLink RL 104 yX5_tour, Cond.instanceMethod yX5_tour, Cond.selects RX5 yX5_tour yX5_tour, Cond.code yX5_tour cX5_tour 2 (some .int)]
def wsL_law_r26 : List Cond := [Cond.methodLink RX5 139 yX5_layRest, Cond.instanceMethod yX5_layRest, Cond.selects RX5 yX5_layRest yX5_layRest, Cond.code yX5_layRest cX5_layRest 6 none, Cond.methodLink RL 105 yX4_tourAt, Cond.instanceMethod yX4_tourAt, Cond.selects RX4 yX4_tourAt yX4_tourAt, Cond.code yX4_tourAt cX4_tourAt 3 (some .int), Cond.methodLink RX4 158 yX1_stepOf, Cond.instanceMethod yX1_stepOf, Cond.selects RX1 yX1_stepOf yX1_stepOf, Cond.code yX1_stepOf cX1_stepOf 6 (some .int), Cond.methodLink RL 108 yX5_tourAt, Cond.instanceMethod yX5_tourAt, Cond.selects RX5 yX5_tourAt yX5_tourAt, Cond.code yX5_tourAt cX5_tourAt 7 (some .int), Cond.methodLink RL 109 yX4_told, Cond.instanceMethod yX4_told, Cond.selects RX4 yX4_told yX4_told, Cond.code yX4_told cX4_told 2 (some .int), Cond.methodLink RX4 161 yX0_fittingCount, Cond.instanceMethod yX0_fittingCount, Cond.selects RX0 yX0_fittingCount yX0_fittingCount, Cond.code yX0_fittingCount cX0_fittingCount 1 (some .int)]
def wsL_law_r27 : List Cond := [Cond.methodLink RX4 164 yX2_nextLaw, Cond.instanceMethod yX2_nextLaw, Cond.selects RX2 yX2_nextLaw yX2_nextLaw, Cond.code yX2_nextLaw cX2_nextLaw 1 (some .int), Cond.methodLink RX4 167 yX2_bendLaw, Cond.instanceMethod yX2_bendLaw, Cond.selects RX2 yX2_bendLaw yX2_bendLaw, Cond.code yX2_bendLaw cX2_bendLaw 1 (some .int), Cond.methodLink RX4 170 yX2_mainSpread, Cond.instanceMethod yX2_mainSpread, Cond.selects RX2 yX2_mainSpread yX2_mainSpread, Cond.code yX2_mainSpread cX2_mainSpread 1 (some .int), Cond.methodLink RX4 173 yX2_sideSpread, Cond.instanceMethod yX2_sideSpread, Cond.selects RX2 yX2_sideSpread yX2_sideSpread, Cond.code yX2_sideSpread cX2_sideSpread 1 (some .int), Cond.methodLink RL 112 yX5_told, Cond.instanceMethod yX5_told, Cond.selects RX5 yX5_told yX5_told, Cond.code yX5_told cX5_told 2 (some .int), Cond.methodLink RX5 142 yX5_fitting, Cond.instanceMethod yX5_fitting, Cond.selects RX5 yX5_fitting yX5_fitting, Cond.code yX5_fitting cX5_fitting 3 (some .int)]
def wsL_law : List Cond := (wsL_law_r1 ++ (wsL_law_r2 ++ (wsL_law_r3 ++ (wsL_law_r4 ++ (wsL_law_r5 ++ (wsL_law_r6 ++ (wsL_law_r7 ++ (wsL_law_r8 ++ (wsL_law_r9 ++ (wsL_law_r10 ++ (wsL_law_r11 ++ (wsL_law_r12 ++ (wsL_law_r13 ++ (wsL_law_r14 ++ (wsL_law_r15 ++ (wsL_law_r16 ++ (wsL_law_r17 ++ (wsL_law_r18 ++ (wsL_law_r19 ++ (wsL_law_r20 ++ (wsL_law_r21 ++ (wsL_law_r22 ++ (wsL_law_r23 ++ (wsL_law_r24 ++ (wsL_law_r25 ++ (wsL_law_r26 ++ wsL_law_r27)))))))))))))))))))))))))) ++ wsX40 ++ wsX50 ++ wsX00 ++ wsX20 ++ wsX30 ++ wsX10 ++ ([] : List Cond)
theorem inlX0 : ∀ w ∈ wsX00, w ∈ wsL_law := fun _ h => List.mem_append_left _ (List.mem_append_left _ (List.mem_append_left _ (List.mem_append_left _ (List.mem_append_right _ h))))
theorem inlX1 : ∀ w ∈ wsX10, w ∈ wsL_law := fun _ h => List.mem_append_left _ (List.mem_append_right _ h)
theorem inlX2 : ∀ w ∈ wsX20, w ∈ wsL_law := fun _ h => List.mem_append_left _ (List.mem_append_left _ (List.mem_append_left _ (List.mem_append_right _ h)))
theorem inlX3 : ∀ w ∈ wsX30, w ∈ wsL_law := fun _ h => List.mem_append_left _ (List.mem_append_left _ (List.mem_append_right _ h))
theorem inlX4 : ∀ w ∈ wsX40, w ∈ wsL_law := fun _ h => List.mem_append_left _ (List.mem_append_left _ (List.mem_append_left _ (List.mem_append_left _ (List.mem_append_left _ (List.mem_append_left _ (List.mem_append_right _ h))))))
theorem inlX5 : ∀ w ∈ wsX50, w ∈ wsL_law := fun _ h => List.mem_append_left _ (List.mem_append_left _ (List.mem_append_left _ (List.mem_append_left _ (List.mem_append_left _ (List.mem_append_right _ h)))))
theorem inJ9 : ∀ w ∈ wsJ90, w ∈ lw_tbl := by decide +kernel
theorem inJ7 : ∀ w ∈ wsJ70, w ∈ lw_tbl := by decide +kernel
abbrev vwCl : List vw_C := [(RX0, TX0, 8), (RX1, TX1, 4), (RX2, TX2, 8), (RX3, TX3, 7), (RX4, TX4, 4), (RX5, TX5, 24)]
end
section
/-! ===== the layer J: numbers are Int, cells are numbered, the state is one function (cell, place) -> Int ===== -/
abbrev AV : Type := Int ⊕ Nat
abbrev AG : Type := Nat → Nat → Int
abbrev AF : Type := Option (Option Nat)
abbrev AC : Type := (Nat × List AF) ⊕ (Bool × Nat)
abbrev AL : Type := List (Option AV)
abbrev aR (x : Int) : Prop := -2147483648 ≤ x ∧ x ≤ 2147483647
def aW (g : AG) : Prop := ∀ k j, aR (g k j)
def i3 (x : Int) : Int32 := Int32.ofInt x
def aset (g : AG) (k j : Nat) (v : Int) : AG := fun k' j' => if k' = k ∧ j' = j then v else g k' j'
def a_v (q : Nat → Nat) : AV → Value
  | .inl x => .int (i3 x)
  | .inr k => .ref (q k)
def a_f (q : Nat → Nat) (g : AG) (k j : Nat) : AF → Value
  | none => .int (i3 (g k j))
  | some none => .null
  | some (some k') => .ref (q k')
def a_c (cI cB : ClassId) (q : Nat → Nat) (g : AG) (k : Nat) : AC → Nat × va_E
  | .inl o => (q k, .inr (o.1, o.2.mapIdx (fun j f => a_f q g k j f)))
  | .inr a => (q k, .inl ((if a.1 then cB else cI), a.2, .inl (fun j => i3 (g k j))))
def a_w (cI cB : ClassId) (q : Nat → Nat) (g : AG) (Sh : List AC) : va_W := Sh.mapIdx (fun k c => a_c cI cB q g k c)
def a_L (q : Nat → Nat) (ls : Array Slot) (L : AL) : Prop := ∃ l : List (Nat × Value), lv_has ls L.length l ∧ ∀ (i : Nat) (v : AV), L[i]? = some (some v) → (i, a_v q v) ∈ l
abbrev a_t (cI cB : ClassId) : List (ClassId × FieldType) := [(cI, .int), (cB, .boolean)]
abbrev JT : Type := (Nat → Nat) → List AC → Nat → Nat → Nat → AL → List AV → AG → Prop
abbrev KT : Type := Option Int → (Nat → Nat) → List AC → Nat → Nat → AG → Prop
def a_J (p : Program) (l : Launch) (e : Env) (R : Room) (s : State) (m : MethodId) (args : Array Value) (below : List Frame) (meth : Method) (c : Code) (A : Nat → Prop) (D : va_G) (cI cB : ClassId) (Q : State → Prop) : JT := fun q Sh ce sl pc L st g =>
  aW g → ∀ (H : Heap) (locs : List Loc) (ls : Array Slot), a_L q ls L → va_P D vwCl (a_w cI cB q g Sh) H → va_D A (a_w cI cB q g Sh) → va_S A s.heap H locs → W p l e R s m args below meth c H locs ce sl Q (F0 m pc ls (st.map (a_v q)))
/-- what a method's walk stands on: everything of the machine is hidden here -/
def JR (own : String) (cc : ByteArray) (nL : Nat) (Ts : List Cond) (R : Room) (K : KT) (J : JT) : Prop :=
  ∃ (p : Program) (l : Launch) (e : Env) (s : State) (m : MethodId) (args : Array Value) (below : List Frame) (meth : Method) (c : Code) (A : Nat → Prop) (D : va_G) (cI cB : ClassId) (Q : State → Prop),
    J = a_J p l e R s m args below meth c A D cI cB Q ∧ p.tables.exec = Jvm.exec ∧ c.code = cc ∧ c.maxLocals = nL ∧ s.vm.findClass own = some m.cls ∧ (∀ w ∈ Ts, w.before args s = true) ∧ va_K D vwCl (a_t cI cB) s ∧ (∀ q, s.heap.size ≤ q → A q) ∧
    ∀ (r : Option Int) (q : Nat → Nat) (Sh : List AC) (ce sl : Nat) (g : AG) (H : Heap) (locs : List Loc) (ls : Array Slot) (pc : Nat), K r q Sh ce sl g → aW g → va_P D vwCl (a_w cI cB q g Sh) H → va_D A (a_w cI cB q g Sh) → va_S A s.heap H locs →
      (∀ x, r = some x → decode cc pc = .ok (.ireturn, 1) → W p l e R s m args below meth c H locs ce sl Q (F0 m pc ls [.int (i3 x)])) ∧ (r = none → decode cc pc = .ok (.return_, 1) → W p l e R s m args below meth c H locs ce sl Q (F0 m pc ls []))
/-! numbers -/
theorem i3_toInt {x : Int} (h : aR x) : (i3 x).toInt = x := Int32.toInt_ofInt_of_le (by have := h.1; omega) (by have := h.2; omega)
theorem i3_lt {x y : Int} (hx : aR x) (hy : aR y) : i3 x < i3 y ↔ x < y := by rw [Int32.lt_iff_toInt_lt, i3_toInt hx, i3_toInt hy]
theorem i3_le {x y : Int} (hx : aR x) (hy : aR y) : i3 x ≤ i3 y ↔ x ≤ y := by rw [Int32.le_iff_toInt_le, i3_toInt hx, i3_toInt hy]
theorem i3_eq {x y : Int} (hx : aR x) (hy : aR y) : i3 x = i3 y ↔ x = y := by rw [← Int32.toInt_inj, i3_toInt hx, i3_toInt hy]
theorem i3_0 : i3 0 = 0 := by decide +kernel
theorem aR_0 : aR 0 := ⟨by decide, by decide⟩
theorem aR_of (x : Int32) : aR x.toInt := ⟨by have := Int32.le_toInt x; omega, by have := Int32.toInt_lt x; omega⟩
theorem i3_of (x : Int32) : i3 x.toInt = x := Int32.ofInt_toInt x
theorem i3_clamp {i : Int} {n : Nat} (h0 : 0 ≤ i) (h : i < n) (hn : n ≤ 2147483647) : (i3 i).toNatClampNeg = i.toNat := by
  show ((i3 i).toInt).toNat = i.toNat
  rw [i3_toInt ⟨by omega, by omega⟩]
theorem i3_in {i : Int} {n : Nat} (h0 : 0 ≤ i) (h : i < n) (hn : n ≤ 2147483647) : vp_in (i3 i) n := by
  rw [vp_in_iff, i3_toInt ⟨by omega, by omega⟩]
  exact ⟨h0, h⟩
theorem aset_s (g : AG) (k j : Nat) (v : Int) : aset g k j v k j = v := by simp [aset]
theorem aset_n (g : AG) {k j k' j' : Nat} (v : Int) (h : k' ≠ k ∨ j' ≠ j) : aset g k j v k' j' = g k' j' := by
  unfold aset
  rw [if_neg]
  rintro ⟨a, b⟩
  rcases h with h | h
  · exact h a
  · exact h b
theorem aset_W {g : AG} (hw : aW g) {k j : Nat} {v : Int} (hv : aR v) : aW (aset g k j v) := by
  intro a b
  unfold aset
  split
  · exact hv
  · exact hw a b
/-! the world -/
theorem a_w_at {cI cB : ClassId} {q : Nat → Nat} {g : AG} {Sh : List AC} {k : Nat} {c : AC} (h : Sh[k]? = some c) : (a_w cI cB q g Sh)[k]? = some (a_c cI cB q g k c) := by
  unfold a_w
  rw [List.getElem?_mapIdx, h]
  rfl
theorem a_c_ne {cI cB : ClassId} {q : Nat → Nat} {g : AG} {k k' j : Nat} {v : Int} (h : k' ≠ k) (c : AC) : a_c cI cB q (aset g k j v) k' c = a_c cI cB q g k' c := by
  have e : ∀ j', aset g k j v k' j' = g k' j' := fun j' => aset_n g v (Or.inl h)
  cases c with
  | inl o =>
    simp only [a_c]
    congr 3
    congr 1
    funext j' f
    rcases f with _ | _ | f <;> simp [a_f, e]
  | inr a => simp only [a_c, e]
theorem a_w_put {cI cB : ClassId} {q : Nat → Nat} {g : AG} {Sh : List AC} {k j : Nat} {v : Int} {c : AC} (h : Sh[k]? = some c) : (a_w cI cB q g Sh).set k (a_c cI cB q (aset g k j v) k c) = a_w cI cB q (aset g k j v) Sh := by
  have hk : k < Sh.length := (List.getElem?_eq_some_iff.mp h).1
  apply List.ext_getElem?
  intro i
  by_cases hi : i = k
  · subst hi
    rw [List.getElem?_set_self (by unfold a_w; simpa using hk), a_w_at h]
  · rw [List.getElem?_set_ne (Ne.symm hi)]
    unfold a_w
    rw [List.getElem?_mapIdx, List.getElem?_mapIdx]
    cases hc : Sh[i]? with
    | none => rfl
    | some c' => exact congrArg some (a_c_ne hi c').symm
theorem a_c_obj {cI cB : ClassId} {q : Nat → Nat} {g : AG} {k j : Nat} {v : Int} {ci : Nat} {fs : List AF} (hf : fs[j]? = some none) : a_c cI cB q (aset g k j v) k (.inl (ci, fs)) = (q k, .inr (ci, (fs.mapIdx (fun j f => a_f q g k j f)).set j (.int (i3 v)))) := by
  have hj : j < fs.length := (List.getElem?_eq_some_iff.mp hf).1
  simp only [a_c]
  congr 3
  apply List.ext_getElem?
  intro i
  by_cases hi : i = j
  · subst hi
    rw [List.getElem?_set_self (by simpa using hj), List.getElem?_mapIdx, hf]
    simp [a_f, aset_s]
  · rw [List.getElem?_set_ne (Ne.symm hi), List.getElem?_mapIdx, List.getElem?_mapIdx]
    cases hc : fs[i]? with
    | none => rfl
    | some f =>
      have e : aset g k j v k i = g k i := aset_n g v (Or.inr hi)
      rcases f with _ | _ | f <;> simp [a_f, e]
theorem a_c_arr {cI cB : ClassId} {q : Nat → Nat} {g : AG} {k j : Nat} {v : Int} {b : Bool} {n : Nat} : a_c cI cB q (aset g k j v) k (.inr (b, n)) = (q k, .inl ((if b then cB else cI), n, .inl (upd (fun j => i3 (g k j)) j (i3 v)))) := by
  simp only [a_c]
  congr 4
  refine congrArg Sum.inl (funext fun i => ?_)
  by_cases hi : i = j
  · subst hi
    simp [aset_s, upd]
  · simp [aset_n g v (Or.inr hi), upd, hi]
/-! locals -/
theorem a_L_at {q : Nat → Nat} {ls : Array Slot} {L : AL} {i : Nat} {v : AV} (h : a_L q ls L) (hi : L[i]? = some (some v)) : ls[i]? = some (.val (a_v q v)) := by
  obtain ⟨l, h1, h2⟩ := h
  exact h1.2.2 _ (h2 i v hi)
theorem a_v_cat (q : Nat → Nat) (v : AV) : (a_v q v).category = 1 := by cases v <;> rfl
theorem a_L_set {q : Nat → Nat} {ls' : Array Slot} {L : AL} {l : List (Nat × Value)} {i : Nat} {v : AV} (h2 : ∀ (i : Nat) (v : AV), L[i]? = some (some v) → (i, a_v q v) ∈ l) (hi : i < L.length) (h' : lv_has ls' L.length ((i, a_v q v) :: l.filter (fun q => !(q.1 == i) && !(q.1 + 1 == i && q.2.category == 2)))) : a_L q ls' (L.set i (some v)) := by
  refine ⟨_, by rw [List.length_set]; exact h', fun j w hj => ?_⟩
  by_cases hji : j = i
  · subst hji
    rw [List.getElem?_set_self hi] at hj
    cases hj
    exact List.mem_cons_self
  · rw [List.getElem?_set_ne (Ne.symm hji)] at hj
    refine List.mem_cons_of_mem _ (List.mem_filter.mpr ⟨h2 j w hj, ?_⟩)
    simp [hji, a_v_cat]
section JRows
variable {own : String} {cc : ByteArray} {nL : Nat} {Ts : List Cond} {R : Room} {K : KT} {J : JT} {q : Nat → Nat} {Sh : List AC} {ce sl pc : Nat} {L : AL} {st : List AV} {g : AG}
theorem j_wf (C : JR own cc nL Ts R K J) (k : aW g → J q Sh ce sl pc L st g) : J q Sh ce sl pc L st g := by
  obtain ⟨p, l, e, s, m, args, below, meth, c, A, D, cI, cB, Q, rfl, hx, hb, hml, hown, hts, hK, hA, hret⟩ := C
  intro hw H locs ls hl hP hD hS
  exact k hw hw H locs ls hl hP hD hS
theorem j_iconst (C : JR own cc nL Ts R K J) {n : Int} (hd : decode cc pc = .ok (.iconst n, 1)) (k : J q Sh ce sl (pc + 1) L (.inl n :: st) g) : J q Sh ce sl pc L st g := by
  obtain ⟨p, l, e, s, m, args, below, meth, c, A, D, cI, cB, Q, rfl, hx, hb, hml, hown, hts, hK, hA, hret⟩ := C
  intro hw H locs ls hl hP hD hS
  exact lv_iconst hx hb hd rfl (k hw H locs ls hl hP hD hS)
theorem j_bipush (C : JR own cc nL Ts R K J) {n : Int} (hd : decode cc pc = .ok (.bipush n, 2)) (hn : (Int8.ofInt n).toInt32 = i3 n) (k : J q Sh ce sl (pc + 2) L (.inl n :: st) g) : J q Sh ce sl pc L st g := by
  obtain ⟨p, l, e, s, m, args, below, meth, c, A, D, cI, cB, Q, rfl, hx, hb, hml, hown, hts, hK, hA, hret⟩ := C
  intro hw H locs ls hl hP hD hS
  exact lv_bipush hx hb hd hn (k hw H locs ls hl hP hD hS)
theorem j_sipush (C : JR own cc nL Ts R K J) {n : Int} (hd : decode cc pc = .ok (.sipush n, 3)) (hn : (Int16.ofInt n).toInt32 = i3 n) (k : J q Sh ce sl (pc + 3) L (.inl n :: st) g) : J q Sh ce sl pc L st g := by
  obtain ⟨p, l, e, s, m, args, below, meth, c, A, D, cI, cB, Q, rfl, hx, hb, hml, hown, hts, hK, hA, hret⟩ := C
  intro hw H locs ls hl hP hD hS
  exact lv_sipush hx hb hd hn (k hw H locs ls hl hP hD hS)
theorem j_ldc (C : JR own cc nL Ts R K J) {i : Nat} (n : Int) (hd : decode cc pc = .ok (.ldc i, 2)) (hw1 : Cond.constant own i (i3 n) ∈ Ts) (k : J q Sh ce sl (pc + 2) L (.inl n :: st) g) : J q Sh ce sl pc L st g := by
  obtain ⟨p, l, e, s, m, args, below, meth, c, A, D, cI, cB, Q, rfl, hx, hb, hml, hown, hts, hK, hA, hret⟩ := C
  intro hw H locs ls hl hP hD hS
  exact lv_ldc hx hb hown (hts _ hw1) hd (k hw H locs ls hl hP hD hS)
theorem j_iload_n (C : JR own cc nL Ts R K J) {i : Fin 4} {x : Int} (hd : decode cc pc = .ok (.iload_n i, 1)) (hi : L[(i : Nat)]? = some (some (.inl x))) (k : J q Sh ce sl (pc + 1) L (.inl x :: st) g) : J q Sh ce sl pc L st g := by
  obtain ⟨p, l, e, s, m, args, below, meth, c, A, D, cI, cB, Q, rfl, hx, hb, hml, hown, hts, hK, hA, hret⟩ := C
  intro hw H locs ls hl hP hD hS
  exact lv_iload_n hx hb hd rfl (a_L_at hl hi) (k hw H locs ls hl hP hD hS)
theorem j_iload (C : JR own cc nL Ts R K J) {i : Nat} {x : Int} (hd : decode cc pc = .ok (.iload i, 2)) (hi : L[i]? = some (some (.inl x))) (k : J q Sh ce sl (pc + 2) L (.inl x :: st) g) : J q Sh ce sl pc L st g := by
  obtain ⟨p, l, e, s, m, args, below, meth, c, A, D, cI, cB, Q, rfl, hx, hb, hml, hown, hts, hK, hA, hret⟩ := C
  intro hw H locs ls hl hP hD hS
  exact lv_iload hx hb hd (a_L_at hl hi) (k hw H locs ls hl hP hD hS)
theorem j_aload_n (C : JR own cc nL Ts R K J) {i : Fin 4} {x : Nat} (hd : decode cc pc = .ok (.aload_n i, 1)) (hi : L[(i : Nat)]? = some (some (.inr x))) (k : J q Sh ce sl (pc + 1) L (.inr x :: st) g) : J q Sh ce sl pc L st g := by
  obtain ⟨p, l, e, s, m, args, below, meth, c, A, D, cI, cB, Q, rfl, hx, hb, hml, hown, hts, hK, hA, hret⟩ := C
  intro hw H locs ls hl hP hD hS
  exact lv_aload_n hx hb hd rfl (a_L_at hl hi) (k hw H locs ls hl hP hD hS)
theorem j_istore_n (C : JR own cc nL Ts R K J) {i : Fin 4} {x : Int} (hd : decode cc pc = .ok (.istore_n i, 1)) (hi : (i : Nat) < L.length) (k : J q Sh ce sl (pc + 1) (L.set (i : Nat) (some (.inl x))) st g) : J q Sh ce sl pc L (.inl x :: st) g := by
  obtain ⟨p, l, e, s, m, args, below, meth, c, A, D, cI, cB, Q, rfl, hx, hb, hml, hown, hts, hK, hA, hret⟩ := C
  intro hw H locs ls hl hP hD hS
  obtain ⟨l0, h1, h2⟩ := hl
  exact lv_istore_n hx hb hd rfl h1 hi rfl (fun ls' h' => k hw H locs ls' (a_L_set h2 hi h') hP hD hS)
theorem j_istore (C : JR own cc nL Ts R K J) {i : Nat} {x : Int} (hd : decode cc pc = .ok (.istore i, 2)) (hi : i < L.length) (k : J q Sh ce sl (pc + 2) (L.set i (some (.inl x))) st g) : J q Sh ce sl pc L (.inl x :: st) g := by
  obtain ⟨p, l, e, s, m, args, below, meth, c, A, D, cI, cB, Q, rfl, hx, hb, hml, hown, hts, hK, hA, hret⟩ := C
  intro hw H locs ls hl hP hD hS
  obtain ⟨l0, h1, h2⟩ := hl
  exact lv_istore hx hb hd h1 hi rfl (fun ls' h' => k hw H locs ls' (a_L_set h2 hi h') hP hD hS)
theorem j_astore_n (C : JR own cc nL Ts R K J) {i : Fin 4} {x : Nat} (hd : decode cc pc = .ok (.astore_n i, 1)) (hi : (i : Nat) < L.length) (k : J q Sh ce sl (pc + 1) (L.set (i : Nat) (some (.inr x))) st g) : J q Sh ce sl pc L (.inr x :: st) g := by
  obtain ⟨p, l, e, s, m, args, below, meth, c, A, D, cI, cB, Q, rfl, hx, hb, hml, hown, hts, hK, hA, hret⟩ := C
  intro hw H locs ls hl hP hD hS
  obtain ⟨l0, h1, h2⟩ := hl
  exact lv_astore_n hx hb hd rfl h1 hi rfl (fun ls' h' => k hw H locs ls' (a_L_set h2 hi h') hP hD hS)
theorem j_iinc (C : JR own cc nL Ts R K J) {i : Nat} {n x : Int} (hd : decode cc pc = .ok (.iinc i n, 3)) (hi : L[i]? = some (some (.inl x))) (k : J q Sh ce sl (pc + 3) (L.set i (some (.inl (x + n)))) st g) : J q Sh ce sl pc L st g := by
  obtain ⟨p, l, e, s, m, args, below, meth, c, A, D, cI, cB, Q, rfl, hx, hb, hml, hown, hts, hK, hA, hret⟩ := C
  intro hw H locs ls hl hP hD hS
  obtain ⟨l0, h1, h2⟩ := hl
  have hl1 := (List.getElem?_eq_some_iff.mp hi).1
  obtain ⟨j, hj⟩ := List.getElem?_of_mem (h2 i _ hi)
  exact lv_iinc (v := i3 (x + n)) hx hb hd h1 hj (Int32.ofInt_add x n).symm hl1 rfl (fun ls' h' => k hw H locs ls' (a_L_set h2 hl1 h') hP hD hS)
theorem j_iadd (C : JR own cc nL Ts R K J) {x y : Int} (hd : decode cc pc = .ok (.iadd, 1)) (k : J q Sh ce sl (pc + 1) L (.inl (x + y) :: st) g) : J q Sh ce sl pc L (.inl y :: .inl x :: st) g := by
  obtain ⟨p, l, e, s, m, args, below, meth, c, A, D, cI, cB, Q, rfl, hx, hb, hml, hown, hts, hK, hA, hret⟩ := C
  intro hw H locs ls hl hP hD hS
  have h := k hw H locs ls hl hP hD hS
  have e9 : i3 (x + y) = i3 x + i3 y := Int32.ofInt_add x y
  refine lv_iadd hx hb hd ?_
  rw [← e9]
  exact h
theorem j_isub (C : JR own cc nL Ts R K J) {x y : Int} (hd : decode cc pc = .ok (.isub, 1)) (k : J q Sh ce sl (pc + 1) L (.inl (x - y) :: st) g) : J q Sh ce sl pc L (.inl y :: .inl x :: st) g := by
  obtain ⟨p, l, e, s, m, args, below, meth, c, A, D, cI, cB, Q, rfl, hx, hb, hml, hown, hts, hK, hA, hret⟩ := C
  intro hw H locs ls hl hP hD hS
  have h := k hw H locs ls hl hP hD hS
  have e9 : i3 (x - y) = i3 x - i3 y := Int32.ofInt_sub x y
  refine lv_isub hx hb hd ?_
  rw [← e9]
  exact h
theorem j_imul (C : JR own cc nL Ts R K J) {x y : Int} (hd : decode cc pc = .ok (.imul, 1)) (k : J q Sh ce sl (pc + 1) L (.inl (x * y) :: st) g) : J q Sh ce sl pc L (.inl y :: .inl x :: st) g := by
  obtain ⟨p, l, e, s, m, args, below, meth, c, A, D, cI, cB, Q, rfl, hx, hb, hml, hown, hts, hK, hA, hret⟩ := C
  intro hw H locs ls hl hP hD hS
  have h := k hw H locs ls hl hP hD hS
  have e9 : i3 (x * y) = i3 x * i3 y := Int32.ofInt_mul x y
  refine lv_imul hx hb hd ?_
  rw [← e9]
  exact h
theorem j_ineg (C : JR own cc nL Ts R K J) {x : Int} (hd : decode cc pc = .ok (.ineg, 1)) (k : J q Sh ce sl (pc + 1) L (.inl (-x) :: st) g) : J q Sh ce sl pc L (.inl x :: st) g := by
  obtain ⟨p, l, e, s, m, args, below, meth, c, A, D, cI, cB, Q, rfl, hx, hb, hml, hown, hts, hK, hA, hret⟩ := C
  intro hw H locs ls hl hP hD hS
  have h := k hw H locs ls hl hP hD hS
  have e9 : i3 (-x) = - i3 x := Int32.ofInt_neg x
  refine lv_ineg hx hb hd ?_
  have e8 : (0 - i3 x) = - i3 x := by rw [Int32.zero_sub]
  first | (rw [← e9]; exact h) | (rw [e8, ← e9]; exact h)
theorem j_iand (C : JR own cc nL Ts R K J) {x y : Int} (hd : decode cc pc = .ok (.iand, 1)) {z : Int} (hz : i3 z = i3 x &&& i3 y) (k : J q Sh ce sl (pc + 1) L (.inl z :: st) g) : J q Sh ce sl pc L (.inl y :: .inl x :: st) g := by
  obtain ⟨p, l, e, s, m, args, below, meth, c, A, D, cI, cB, Q, rfl, hx, hb, hml, hown, hts, hK, hA, hret⟩ := C
  intro hw H locs ls hl hP hD hS
  have h := k hw H locs ls hl hP hD hS
  refine lv_iand hx hb hd ?_
  rw [← hz]
  exact h
theorem j_ior (C : JR own cc nL Ts R K J) {x y : Int} (hd : decode cc pc = .ok (.ior, 1)) {z : Int} (hz : i3 z = i3 x ||| i3 y) (k : J q Sh ce sl (pc + 1) L (.inl z :: st) g) : J q Sh ce sl pc L (.inl y :: .inl x :: st) g := by
  obtain ⟨p, l, e, s, m, args, below, meth, c, A, D, cI, cB, Q, rfl, hx, hb, hml, hown, hts, hK, hA, hret⟩ := C
  intro hw H locs ls hl hP hD hS
  have h := k hw H locs ls hl hP hD hS
  refine lv_ior hx hb hd ?_
  rw [← hz]
  exact h
theorem j_ixor (C : JR own cc nL Ts R K J) {x y : Int} (hd : decode cc pc = .ok (.ixor, 1)) {z : Int} (hz : i3 z = i3 x ^^^ i3 y) (k : J q Sh ce sl (pc + 1) L (.inl z :: st) g) : J q Sh ce sl pc L (.inl y :: .inl x :: st) g := by
  obtain ⟨p, l, e, s, m, args, below, meth, c, A, D, cI, cB, Q, rfl, hx, hb, hml, hown, hts, hK, hA, hret⟩ := C
  intro hw H locs ls hl hP hD hS
  have h := k hw H locs ls hl hP hD hS
  refine lv_ixor hx hb hd ?_
  rw [← hz]
  exact h
theorem j_ishl (C : JR own cc nL Ts R K J) {x y : Int} (hd : decode cc pc = .ok (.ishl, 1)) {z : Int} (hz : i3 z = i3 x <<< (i3 y &&& 31)) (k : J q Sh ce sl (pc + 1) L (.inl z :: st) g) : J q Sh ce sl pc L (.inl y :: .inl x :: st) g := by
  obtain ⟨p, l, e, s, m, args, below, meth, c, A, D, cI, cB, Q, rfl, hx, hb, hml, hown, hts, hK, hA, hret⟩ := C
  intro hw H locs ls hl hP hD hS
  have h := k hw H locs ls hl hP hD hS
  refine lv_ishl hx hb hd ?_
  rw [← hz]
  exact h
theorem j_ishr (C : JR own cc nL Ts R K J) {x y : Int} (hd : decode cc pc = .ok (.ishr, 1)) {z : Int} (hz : i3 z = i3 x >>> (i3 y &&& 31)) (k : J q Sh ce sl (pc + 1) L (.inl z :: st) g) : J q Sh ce sl pc L (.inl y :: .inl x :: st) g := by
  obtain ⟨p, l, e, s, m, args, below, meth, c, A, D, cI, cB, Q, rfl, hx, hb, hml, hown, hts, hK, hA, hret⟩ := C
  intro hw H locs ls hl hP hD hS
  have h := k hw H locs ls hl hP hD hS
  refine lv_ishr hx hb hd ?_
  rw [← hz]
  exact h
theorem j_dup (C : JR own cc nL Ts R K J) {v : AV} (hd : decode cc pc = .ok (.dup, 1)) (k : J q Sh ce sl (pc + 1) L (v :: v :: st) g) : J q Sh ce sl pc L (v :: st) g := by
  obtain ⟨p, l, e, s, m, args, below, meth, c, A, D, cI, cB, Q, rfl, hx, hb, hml, hown, hts, hK, hA, hret⟩ := C
  intro hw H locs ls hl hP hD hS
  exact lv_dup hx hb hd (a_v_cat q v) (k hw H locs ls hl hP hD hS)
theorem j_pop (C : JR own cc nL Ts R K J) {v : AV} (hd : decode cc pc = .ok (.pop, 1)) (k : J q Sh ce sl (pc + 1) L st g) : J q Sh ce sl pc L (v :: st) g := by
  obtain ⟨p, l, e, s, m, args, below, meth, c, A, D, cI, cB, Q, rfl, hx, hb, hml, hown, hts, hK, hA, hret⟩ := C
  intro hw H locs ls hl hP hD hS
  exact lv_pop hx hb hd (a_v_cat q v) (k hw H locs ls hl hP hD hS)
theorem j_dup2 (C : JR own cc nL Ts R K J) {v u : AV} (hd : decode cc pc = .ok (.dup2, 1)) (k : J q Sh ce sl (pc + 1) L (v :: u :: v :: u :: st) g) : J q Sh ce sl pc L (v :: u :: st) g := by
  obtain ⟨p, l, e, s, m, args, below, meth, c, A, D, cI, cB, Q, rfl, hx, hb, hml, hown, hts, hK, hA, hret⟩ := C
  intro hw H locs ls hl hP hD hS
  exact lv_dup2_11 hx hb hd (a_v_cat q v) (a_v_cat q u) (k hw H locs ls hl hP hD hS)
theorem j_icmp_eq (C : JR own cc nL Ts R K J) {x y : Int} {off : Int} {tgt : Nat} (hd : decode cc pc = .ok (.if_icmp .eq off, 3)) (ht : (pc : Int) + off = (tgt : Int)) (hX : aR x) (hY : aR y) (kt : x = y → J q Sh ce sl tgt L st g) (kf : ¬ (x = y) → J q Sh ce sl (pc + 3) L st g) : J q Sh ce sl pc L (.inl y :: .inl x :: st) g := by
  obtain ⟨p, l, e, s, m, args, below, meth, c, A, D, cI, cB, Q, rfl, hx, hb, hml, hown, hts, hK, hA, hret⟩ := C
  intro hw H locs ls hl hP hD hS
  exact lv_icmp_eq hx hb hd ht (fun h => kt ((i3_eq hX hY).mp h) hw H locs ls hl hP hD hS) (fun h => kf (fun z => h ((i3_eq hX hY).mpr z)) hw H locs ls hl hP hD hS)
theorem j_if_eq (C : JR own cc nL Ts R K J) {x : Int} {off : Int} {tgt : Nat} (hd : decode cc pc = .ok (.ifCond .eq off, 3)) (ht : (pc : Int) + off = (tgt : Int)) (hX : aR x) (kt : x = 0 → J q Sh ce sl tgt L st g) (kf : ¬ (x = 0) → J q Sh ce sl (pc + 3) L st g) : J q Sh ce sl pc L (.inl x :: st) g := by
  obtain ⟨p, l, e, s, m, args, below, meth, c, A, D, cI, cB, Q, rfl, hx, hb, hml, hown, hts, hK, hA, hret⟩ := C
  intro hw H locs ls hl hP hD hS
  exact lv_if_eq hx hb hd ht (fun h => kt ((i3_eq hX aR_0).mp (by rw [i3_0]; exact h)) hw H locs ls hl hP hD hS) (fun h => kf (fun z => h (by have h9 := (i3_eq hX aR_0).mpr z; rw [i3_0] at h9; exact h9)) hw H locs ls hl hP hD hS)
theorem j_icmp_ne (C : JR own cc nL Ts R K J) {x y : Int} {off : Int} {tgt : Nat} (hd : decode cc pc = .ok (.if_icmp .ne off, 3)) (ht : (pc : Int) + off = (tgt : Int)) (hX : aR x) (hY : aR y) (kt : ¬ x = y → J q Sh ce sl tgt L st g) (kf : x = y → J q Sh ce sl (pc + 3) L st g) : J q Sh ce sl pc L (.inl y :: .inl x :: st) g := by
  obtain ⟨p, l, e, s, m, args, below, meth, c, A, D, cI, cB, Q, rfl, hx, hb, hml, hown, hts, hK, hA, hret⟩ := C
  intro hw H locs ls hl hP hD hS
  exact lv_icmp_ne hx hb hd ht (fun h => kt (fun z => h (congrArg i3 z)) hw H locs ls hl hP hD hS) (fun h => kf (by first | exact (i3_eq hX hY).mp (Classical.not_not.mp h) | exact (i3_eq hX hY).mp h) hw H locs ls hl hP hD hS)
theorem j_if_ne (C : JR own cc nL Ts R K J) {x : Int} {off : Int} {tgt : Nat} (hd : decode cc pc = .ok (.ifCond .ne off, 3)) (ht : (pc : Int) + off = (tgt : Int)) (hX : aR x) (kt : ¬ x = 0 → J q Sh ce sl tgt L st g) (kf : x = 0 → J q Sh ce sl (pc + 3) L st g) : J q Sh ce sl pc L (.inl x :: st) g := by
  obtain ⟨p, l, e, s, m, args, below, meth, c, A, D, cI, cB, Q, rfl, hx, hb, hml, hown, hts, hK, hA, hret⟩ := C
  intro hw H locs ls hl hP hD hS
  exact lv_if_ne hx hb hd ht (fun h => kt (fun z => h (by rw [z]; exact i3_0)) hw H locs ls hl hP hD hS) (fun h => kf (by rw [← i3_0] at h; first | exact (i3_eq hX aR_0).mp (Classical.not_not.mp h) | exact (i3_eq hX aR_0).mp h) hw H locs ls hl hP hD hS)
theorem j_icmp_lt (C : JR own cc nL Ts R K J) {x y : Int} {off : Int} {tgt : Nat} (hd : decode cc pc = .ok (.if_icmp .lt off, 3)) (ht : (pc : Int) + off = (tgt : Int)) (hX : aR x) (hY : aR y) (kt : x < y → J q Sh ce sl tgt L st g) (kf : ¬ (x < y) → J q Sh ce sl (pc + 3) L st g) : J q Sh ce sl pc L (.inl y :: .inl x :: st) g := by
  obtain ⟨p, l, e, s, m, args, below, meth, c, A, D, cI, cB, Q, rfl, hx, hb, hml, hown, hts, hK, hA, hret⟩ := C
  intro hw H locs ls hl hP hD hS
  exact lv_icmp_lt hx hb hd ht (fun h => kt ((i3_lt hX hY).mp h) hw H locs ls hl hP hD hS) (fun h => kf (fun z => h ((i3_lt hX hY).mpr z)) hw H locs ls hl hP hD hS)
theorem j_if_lt (C : JR own cc nL Ts R K J) {x : Int} {off : Int} {tgt : Nat} (hd : decode cc pc = .ok (.ifCond .lt off, 3)) (ht : (pc : Int) + off = (tgt : Int)) (hX : aR x) (kt : x < 0 → J q Sh ce sl tgt L st g) (kf : ¬ (x < 0) → J q Sh ce sl (pc + 3) L st g) : J q Sh ce sl pc L (.inl x :: st) g := by
  obtain ⟨p, l, e, s, m, args, below, meth, c, A, D, cI, cB, Q, rfl, hx, hb, hml, hown, hts, hK, hA, hret⟩ := C
  intro hw H locs ls hl hP hD hS
  exact lv_if_lt hx hb hd ht (fun h => kt ((i3_lt hX aR_0).mp (by rw [i3_0]; exact h)) hw H locs ls hl hP hD hS) (fun h => kf (fun z => h (by have h9 := (i3_lt hX aR_0).mpr z; rw [i3_0] at h9; exact h9)) hw H locs ls hl hP hD hS)
theorem j_icmp_ge (C : JR own cc nL Ts R K J) {x y : Int} {off : Int} {tgt : Nat} (hd : decode cc pc = .ok (.if_icmp .ge off, 3)) (ht : (pc : Int) + off = (tgt : Int)) (hX : aR x) (hY : aR y) (kt : y ≤ x → J q Sh ce sl tgt L st g) (kf : ¬ (y ≤ x) → J q Sh ce sl (pc + 3) L st g) : J q Sh ce sl pc L (.inl y :: .inl x :: st) g := by
  obtain ⟨p, l, e, s, m, args, below, meth, c, A, D, cI, cB, Q, rfl, hx, hb, hml, hown, hts, hK, hA, hret⟩ := C
  intro hw H locs ls hl hP hD hS
  exact lv_icmp_ge hx hb hd ht (fun h => kt ((i3_le hY hX).mp h) hw H locs ls hl hP hD hS) (fun h => kf (fun z => h ((i3_le hY hX).mpr z)) hw H locs ls hl hP hD hS)
theorem j_if_ge (C : JR own cc nL Ts R K J) {x : Int} {off : Int} {tgt : Nat} (hd : decode cc pc = .ok (.ifCond .ge off, 3)) (ht : (pc : Int) + off = (tgt : Int)) (hX : aR x) (kt : 0 ≤ x → J q Sh ce sl tgt L st g) (kf : ¬ (0 ≤ x) → J q Sh ce sl (pc + 3) L st g) : J q Sh ce sl pc L (.inl x :: st) g := by
  obtain ⟨p, l, e, s, m, args, below, meth, c, A, D, cI, cB, Q, rfl, hx, hb, hml, hown, hts, hK, hA, hret⟩ := C
  intro hw H locs ls hl hP hD hS
  exact lv_if_ge hx hb hd ht (fun h => kt ((i3_le aR_0 hX).mp (by rw [i3_0]; exact h)) hw H locs ls hl hP hD hS) (fun h => kf (fun z => h (by have h9 := (i3_le aR_0 hX).mpr z; rw [i3_0] at h9; exact h9)) hw H locs ls hl hP hD hS)
theorem j_icmp_gt (C : JR own cc nL Ts R K J) {x y : Int} {off : Int} {tgt : Nat} (hd : decode cc pc = .ok (.if_icmp .gt off, 3)) (ht : (pc : Int) + off = (tgt : Int)) (hX : aR x) (hY : aR y) (kt : y < x → J q Sh ce sl tgt L st g) (kf : ¬ (y < x) → J q Sh ce sl (pc + 3) L st g) : J q Sh ce sl pc L (.inl y :: .inl x :: st) g := by
  obtain ⟨p, l, e, s, m, args, below, meth, c, A, D, cI, cB, Q, rfl, hx, hb, hml, hown, hts, hK, hA, hret⟩ := C
  intro hw H locs ls hl hP hD hS
  exact lv_icmp_gt hx hb hd ht (fun h => kt ((i3_lt hY hX).mp h) hw H locs ls hl hP hD hS) (fun h => kf (fun z => h ((i3_lt hY hX).mpr z)) hw H locs ls hl hP hD hS)
theorem j_if_gt (C : JR own cc nL Ts R K J) {x : Int} {off : Int} {tgt : Nat} (hd : decode cc pc = .ok (.ifCond .gt off, 3)) (ht : (pc : Int) + off = (tgt : Int)) (hX : aR x) (kt : 0 < x → J q Sh ce sl tgt L st g) (kf : ¬ (0 < x) → J q Sh ce sl (pc + 3) L st g) : J q Sh ce sl pc L (.inl x :: st) g := by
  obtain ⟨p, l, e, s, m, args, below, meth, c, A, D, cI, cB, Q, rfl, hx, hb, hml, hown, hts, hK, hA, hret⟩ := C
  intro hw H locs ls hl hP hD hS
  exact lv_if_gt hx hb hd ht (fun h => kt ((i3_lt aR_0 hX).mp (by rw [i3_0]; exact h)) hw H locs ls hl hP hD hS) (fun h => kf (fun z => h (by have h9 := (i3_lt aR_0 hX).mpr z; rw [i3_0] at h9; exact h9)) hw H locs ls hl hP hD hS)
theorem j_icmp_le (C : JR own cc nL Ts R K J) {x y : Int} {off : Int} {tgt : Nat} (hd : decode cc pc = .ok (.if_icmp .le off, 3)) (ht : (pc : Int) + off = (tgt : Int)) (hX : aR x) (hY : aR y) (kt : x ≤ y → J q Sh ce sl tgt L st g) (kf : ¬ (x ≤ y) → J q Sh ce sl (pc + 3) L st g) : J q Sh ce sl pc L (.inl y :: .inl x :: st) g := by
  obtain ⟨p, l, e, s, m, args, below, meth, c, A, D, cI, cB, Q, rfl, hx, hb, hml, hown, hts, hK, hA, hret⟩ := C
  intro hw H locs ls hl hP hD hS
  exact lv_icmp_le hx hb hd ht (fun h => kt ((i3_le hX hY).mp h) hw H locs ls hl hP hD hS) (fun h => kf (fun z => h ((i3_le hX hY).mpr z)) hw H locs ls hl hP hD hS)
theorem j_if_le (C : JR own cc nL Ts R K J) {x : Int} {off : Int} {tgt : Nat} (hd : decode cc pc = .ok (.ifCond .le off, 3)) (ht : (pc : Int) + off = (tgt : Int)) (hX : aR x) (kt : x ≤ 0 → J q Sh ce sl tgt L st g) (kf : ¬ (x ≤ 0) → J q Sh ce sl (pc + 3) L st g) : J q Sh ce sl pc L (.inl x :: st) g := by
  obtain ⟨p, l, e, s, m, args, below, meth, c, A, D, cI, cB, Q, rfl, hx, hb, hml, hown, hts, hK, hA, hret⟩ := C
  intro hw H locs ls hl hP hD hS
  exact lv_if_le hx hb hd ht (fun h => kt ((i3_le hX aR_0).mp (by rw [i3_0]; exact h)) hw H locs ls hl hP hD hS) (fun h => kf (fun z => h (by have h9 := (i3_le hX aR_0).mpr z; rw [i3_0] at h9; exact h9)) hw H locs ls hl hP hD hS)
theorem j_goto (C : JR own cc nL Ts R K J) {off : Int} {tgt : Nat} (hd : decode cc pc = .ok (.goto off, 3)) (ht : (pc : Int) + off = (tgt : Int)) (k : J q Sh ce sl tgt L st g) : J q Sh ce sl pc L st g := by
  obtain ⟨p, l, e, s, m, args, below, meth, c, A, D, cI, cB, Q, rfl, hx, hb, hml, hown, hts, hK, hA, hret⟩ := C
  intro hw H locs ls hl hP hD hS
  exact lv_goto hx hb hd ht (k hw H locs ls hl hP hD hS)
theorem j_tout (C : JR own cc nL Ts R K J) {dflt lo hi x : Int} {offs : Array Int} {len tgt : Nat} (hd : decode cc pc = .ok (.tableswitch dflt lo hi offs, len)) (hX : aR x) (h : x < lo ∨ hi < x) (ht : (pc : Int) + dflt = (tgt : Int)) (k : J q Sh ce sl tgt L st g) : J q Sh ce sl pc L (.inl x :: st) g := by
  obtain ⟨p, l, e, s, m, args, below, meth, c, A, D, cI, cB, Q, rfl, hx, hb, hml, hown, hts, hK, hA, hret⟩ := C
  intro hw H locs ls hl hP hD hS
  exact lv_tableOut hx hb hd (by rw [i3_toInt hX]; exact h) ht (k hw H locs ls hl hP hD hS)
theorem j_tin (C : JR own cc nL Ts R K J) {dflt lo hi x off : Int} {offs : Array Int} {len tgt : Nat} (hd : decode cc pc = .ok (.tableswitch dflt lo hi offs, len)) (hX : aR x) (h1 : ¬ x < lo) (h2 : ¬ hi < x) (ho : offs[(x - lo).toNat]? = some off) (ht : (pc : Int) + off = (tgt : Int)) (k : J q Sh ce sl tgt L st g) : J q Sh ce sl pc L (.inl x :: st) g := by
  obtain ⟨p, l, e, s, m, args, below, meth, c, A, D, cI, cB, Q, rfl, hx, hb, hml, hown, hts, hK, hA, hret⟩ := C
  intro hw H locs ls hl hP hD hS
  exact lv_tableIn hx hb hd (by rw [i3_toInt hX]; exact h1) (by rw [i3_toInt hX]; exact h2) (by rw [i3_toInt hX]; exact ho) ht (k hw H locs ls hl hP hD hS)
theorem j_iret (C : JR own cc nL Ts R K J) {x : Int} (hd : decode cc pc = .ok (.ireturn, 1)) (k : aW g → K (some x) q Sh ce sl g) : J q Sh ce sl pc L [.inl x] g := by
  obtain ⟨p, l, e, s, m, args, below, meth, c, A, D, cI, cB, Q, rfl, hx, hb, hml, hown, hts, hK, hA, hret⟩ := C
  intro hw H locs ls hl hP hD hS
  exact (hret (some x) q Sh ce sl g H locs ls pc (k hw) hw hP hD hS).1 x rfl hd
theorem j_vret (C : JR own cc nL Ts R K J) (hd : decode cc pc = .ok (.return_, 1)) (k : aW g → K none q Sh ce sl g) : J q Sh ce sl pc L [] g := by
  obtain ⟨p, l, e, s, m, args, below, meth, c, A, D, cI, cB, Q, rfl, hx, hb, hml, hown, hts, hK, hA, hret⟩ := C
  intro hw H locs ls hl hP hD hS
  exact (hret none q Sh ce sl g H locs ls pc (k hw) hw hP hD hS).2 rfl hd
end JRows
end
section
/-! ===== the layer J: fields, arrays, calls, contracts ===== -/
/-- a field as a method's words know it: class number ci, slot j, by the pool entry idx -/
def aFL (Ts : List Cond) (own : String) (idx ci j : Nat) : Prop := ∃ (C : String) (T : u_T) (N : Nat), vwCl[ci]? = some (C, T, N) ∧ (∀ w ∈ u_ws C T N, w ∈ Ts) ∧ j < N ∧ Cond.fieldLink own idx (T j).1 (T j).2.1 (T j).2.2.1 ∈ Ts
/-- and as it is written -/
def aFP (Ts : List Cond) (own : String) (idx ci j : Nat) (bo : Bool) : Prop := ∃ (C : String) (T : u_T) (N : Nat) (ty : Nat → FieldType), vwCl[ci]? = some (C, T, N) ∧ (∀ w ∈ u_ws C T N, w ∈ Ts) ∧ (∀ k, k < N → parseFieldDescriptor (T k).2.2.1 = some (ty k)) ∧ (∀ a, a < N → ∀ b, b < N → a ≠ b → (T a).2.1 ≠ (T b).2.1) ∧ j < N ∧ Cond.fieldLink own idx (T j).1 (T j).2.1 (T j).2.2.1 ∈ Ts ∧ (T j).2.2.2 = false ∧ ty j = (if bo then .boolean else .int)
theorem a_nar {bo : Bool} {x : Int} (h : bo = true → x = 0 ∨ x = 1) : narrow (if bo then .boolean else .int) (.int (i3 x)) = .int (i3 x) ∧ fits (if bo then .boolean else .int) (.int (i3 x)) = true := by
  cases bo with
  | false => exact ⟨rfl, rfl⟩
  | true =>
    rcases h rfl with rfl | rfl
    · exact ⟨by decide +kernel, by decide +kernel⟩
    · exact ⟨by decide +kernel, by decide +kernel⟩
section JHeap
variable {own : String} {cc : ByteArray} {nL : Nat} {Ts : List Cond} {R : Room} {K : KT} {J : JT} {q : Nat → Nat} {Sh : List AC} {ce sl pc : Nat} {L : AL} {st : List AV} {g : AG}
theorem j_getI (C : JR own cc nL Ts R K J) {idx ci j k : Nat} {fs : List AF} (F : aFL Ts own idx ci j) (hs : Sh[k]? = some (.inl (ci, fs))) (hf : fs[j]? = some none) (hd : decode cc pc = .ok (.getfield idx, 3)) (kk : J q Sh ce sl (pc + 3) L (.inl (g k j) :: st) g) : J q Sh ce sl pc L (.inr k :: st) g := by
  obtain ⟨p, l, e, s, m, args, below, meth, c, A, D, cI, cB, Q, rfl, hx, hb, hml, hown, hts, hK, hA, hret⟩ := C
  intro hw H locs ls hl hP hD hS
  obtain ⟨Cn, T, N, f1, f2, f3, f4⟩ := F
  refine va_get (D := D) (cl := vwCl) (v := .int (i3 (g k j))) hx hb hts f2 hown hK hP k (a_w_at hs) f1 j f3 (hts _ f4) (fun _ h => h) ?_ hd (kk hw H locs ls hl hP hD hS)
  show (fs.mapIdx (fun j f => a_f q g k j f))[j]? = _
  rw [List.getElem?_mapIdx, hf]
  rfl
theorem j_getR (C : JR own cc nL Ts R K J) {idx ci j k k' : Nat} {fs : List AF} (F : aFL Ts own idx ci j) (hs : Sh[k]? = some (.inl (ci, fs))) (hf : fs[j]? = some (some (some k'))) (hd : decode cc pc = .ok (.getfield idx, 3)) (kk : J q Sh ce sl (pc + 3) L (.inr k' :: st) g) : J q Sh ce sl pc L (.inr k :: st) g := by
  obtain ⟨p, l, e, s, m, args, below, meth, c, A, D, cI, cB, Q, rfl, hx, hb, hml, hown, hts, hK, hA, hret⟩ := C
  intro hw H locs ls hl hP hD hS
  obtain ⟨Cn, T, N, f1, f2, f3, f4⟩ := F
  refine va_get (D := D) (cl := vwCl) (v := .ref (q k')) hx hb hts f2 hown hK hP k (a_w_at hs) f1 j f3 (hts _ f4) (fun _ h => h) ?_ hd (kk hw H locs ls hl hP hD hS)
  show (fs.mapIdx (fun j f => a_f q g k j f))[j]? = _
  rw [List.getElem?_mapIdx, hf]
  rfl
theorem j_putI (C : JR own cc nL Ts R K J) {idx ci j k : Nat} {bo : Bool} {fs : List AF} {x : Int} (F : aFP Ts own idx ci j bo) (hs : Sh[k]? = some (.inl (ci, fs))) (hf : fs[j]? = some none) (hX : aR x) (hB : bo = true → x = 0 ∨ x = 1) (hd : decode cc pc = .ok (.putfield idx, 3)) (kk : J q Sh ce sl (pc + 3) L st (aset g k j x)) : J q Sh ce sl pc L (.inl x :: .inr k :: st) g := by
  obtain ⟨p, l, e, s, m, args, below, meth, c, A, D, cI, cB, Q, rfl, hx, hb, hml, hown, hts, hK, hA, hret⟩ := C
  intro hw H locs ls hl hP hD hS
  obtain ⟨Cn, T, N, ty, f1, f2, f3, f4, f5, f6, f7, f8⟩ := F
  obtain ⟨n1, n2⟩ := a_nar (bo := bo) (x := x) hB
  have hj : j < fs.length := (List.getElem?_eq_some_iff.mp hf).1
  refine va_put (D := D) (cl := vwCl) (v := .int (i3 x)) (ty := if bo then .boolean else .int) hx hb hts f2 ty f3 f4 hown hK hP hD hS k (a_w_at hs) f1 j f5 (hts _ f6) (fun _ h => h) f7 (by rw [f3 j f5, f8]) n1 n2 (by simpa using hj) hd (fun H1 locs1 hP1 hD1 hS1 => ?_)
  have e9 := a_w_put (cI := cI) (cB := cB) (q := q) (g := g) (v := x) (j := j) hs
  rw [a_c_obj hf] at e9
  rw [e9] at hP1 hD1
  exact kk (aset_W hw hX) H1 locs1 ls hl hP1 hD1 hS1
theorem j_iaload (C : JR own cc nL Ts R K J) {k n : Nat} {i : Int} (hs : Sh[k]? = some (.inr (false, n))) (hn : n ≤ 2147483647) (hd : decode cc pc = .ok (.iaload, 1)) (h0 : 0 ≤ i) (h1 : i < n) (kk : J q Sh ce sl (pc + 1) L (.inl (g k i.toNat) :: st) g) : J q Sh ce sl pc L (.inl i :: .inr k :: st) g := by
  obtain ⟨p, l, e, s, m, args, below, meth, c, A, D, cI, cB, Q, rfl, hx, hb, hml, hown, hts, hK, hA, hret⟩ := C
  intro hw H locs ls hl hP hD hS
  refine va_iald (D := D) (cl := vwCl) (f := fun j => i3 (g k j)) hx hb hK hP k 0 (a_w_at hs) rfl (i3_in h0 h1 hn) hd ?_
  rw [i3_clamp h0 h1 hn]
  exact kk hw H locs ls hl hP hD hS
theorem j_baload (C : JR own cc nL Ts R K J) {k n : Nat} {i : Int} (hs : Sh[k]? = some (.inr (true, n))) (hn : n ≤ 2147483647) (hd : decode cc pc = .ok (.baload, 1)) (h0 : 0 ≤ i) (h1 : i < n) (kk : J q Sh ce sl (pc + 1) L (.inl (g k i.toNat) :: st) g) : J q Sh ce sl pc L (.inl i :: .inr k :: st) g := by
  obtain ⟨p, l, e, s, m, args, below, meth, c, A, D, cI, cB, Q, rfl, hx, hb, hml, hown, hts, hK, hA, hret⟩ := C
  intro hw H locs ls hl hP hD hS
  refine va_zald (D := D) (cl := vwCl) (f := fun j => i3 (g k j)) hx hb hK hP k 1 (a_w_at hs) rfl (i3_in h0 h1 hn) hd ?_
  rw [i3_clamp h0 h1 hn]
  exact kk hw H locs ls hl hP hD hS
theorem j_iastore (C : JR own cc nL Ts R K J) {k n : Nat} {i x : Int} (hs : Sh[k]? = some (.inr (false, n))) (hn : n ≤ 2147483647) (hd : decode cc pc = .ok (.iastore, 1)) (h0 : 0 ≤ i) (h1 : i < n) (hX : aR x) (kk : J q Sh ce sl (pc + 1) L st (aset g k i.toNat x)) : J q Sh ce sl pc L (.inl x :: .inl i :: .inr k :: st) g := by
  obtain ⟨p, l, e, s, m, args, below, meth, c, A, D, cI, cB, Q, rfl, hx, hb, hml, hown, hts, hK, hA, hret⟩ := C
  intro hw H locs ls hl hP hD hS
  refine va_iast (D := D) (cl := vwCl) (f := fun j => i3 (g k j)) hx hb hK hP hD hS k 0 (a_w_at hs) rfl (i3_in h0 h1 hn) hd (fun H1 locs1 hP1 hD1 hS1 => ?_)
  rw [i3_clamp h0 h1 hn] at hP1 hD1
  have e9 := a_w_put (cI := cI) (cB := cB) (q := q) (g := g) (v := x) (j := i.toNat) hs
  rw [a_c_arr] at e9
  have e9 : (a_w cI cB q g Sh).set k (q k, .inl (cI, n, .inl (upd (fun j => i3 (g k j)) i.toNat (i3 x)))) = _ := e9
  have hP1 : va_P D vwCl (a_w cI cB q (aset g k i.toNat x) Sh) H1 := by rw [← e9]; exact hP1
  have hD1 : va_D A (a_w cI cB q (aset g k i.toNat x) Sh) := by rw [← e9]; exact hD1
  exact kk (aset_W hw hX) H1 locs1 ls hl hP1 hD1 hS1
theorem j_bastore (C : JR own cc nL Ts R K J) {k n : Nat} {i x : Int} (hs : Sh[k]? = some (.inr (true, n))) (hn : n ≤ 2147483647) (hd : decode cc pc = .ok (.bastore, 1)) (h0 : 0 ≤ i) (h1 : i < n) (hB : x = 0 ∨ x = 1) (kk : J q Sh ce sl (pc + 1) L st (aset g k i.toNat x)) : J q Sh ce sl pc L (.inl x :: .inl i :: .inr k :: st) g := by
  obtain ⟨p, l, e, s, m, args, below, meth, c, A, D, cI, cB, Q, rfl, hx, hb, hml, hown, hts, hK, hA, hret⟩ := C
  intro hw H locs ls hl hP hD hS
  refine va_zast (D := D) (cl := vwCl) (f := fun j => i3 (g k j)) hx hb hK hP hD hS k 1 (a_w_at hs) rfl (i3_in h0 h1 hn) hd (fun H1 locs1 hP1 hD1 hS1 => ?_)
  have e8 : vp_nar .boolean (i3 x) = i3 x := by rcases hB with rfl | rfl <;> decide +kernel
  rw [i3_clamp h0 h1 hn, e8] at hP1 hD1
  have e9 := a_w_put (cI := cI) (cB := cB) (q := q) (g := g) (v := x) (j := i.toNat) hs
  rw [a_c_arr] at e9
  have e9 : (a_w cI cB q g Sh).set k (q k, .inl (cB, n, .inl (upd (fun j => i3 (g k j)) i.toNat (i3 x)))) = _ := e9
  have hP1 : va_P D vwCl (a_w cI cB q (aset g k i.toNat x) Sh) H1 := by rw [← e9]; exact hP1
  have hD1 : va_D A (a_w cI cB q (aset g k i.toNat x) Sh) := by rw [← e9]; exact hD1
  exact kk (aset_W hw ⟨by omega, by omega⟩) H1 locs1 ls hl hP1 hD1 hS1
theorem j_alen (C : JR own cc nL Ts R K J) {k n : Nat} {b : Bool} (hs : Sh[k]? = some (.inr (b, n))) (hd : decode cc pc = .ok (.arraylength, 1)) (kk : J q Sh ce sl (pc + 1) L (.inl (n : Int) :: st) g) : J q Sh ce sl pc L (.inr k :: st) g := by
  obtain ⟨p, l, e, s, m, args, below, meth, c, A, D, cI, cB, Q, rfl, hx, hb, hml, hown, hts, hK, hA, hret⟩ := C
  intro hw H locs ls hl hP hD hS
  have e9 : Int32.ofNat n = i3 (n : Int) := (Int32.ofInt_eq_ofNat).symm
  cases b with
  | false => exact va_alen (D := D) (cl := vwCl) (x := (n, .inl (fun j => i3 (g k j)))) hx hb hK hP k 0 (a_w_at hs) rfl e9 hd (kk hw H locs ls hl hP hD hS)
  | true => exact va_alen (D := D) (cl := vwCl) (x := (n, .inl (fun j => i3 (g k j)))) hx hb hK hP k 1 (a_w_at hs) rfl e9 hd (kk hw H locs ls hl hP hD hS)
/-- the words of a Math method -/
def aMw (Ts : List Cond) (own : String) (idx : Nat) (y : MethodName) (code : ByteArray) (n : Nat) : Prop := Cond.methodLink own idx y ∈ Ts ∧ Cond.static y ∈ Ts ∧ Cond.initialized "java/lang/Math" ∈ Ts ∧ Cond.code y code n (some .int) ∈ Ts
theorem a_cats (q : Nat → Nat) : ∀ (st : List AV), ((st.map (a_v q)).map fun v => v.category).sum = st.length
  | [] => rfl
  | v :: st => by
    rw [List.map_cons, List.map_cons, List.sum_cons, a_v_cat, a_cats q st, List.length_cons]
    omega
theorem a_L_size {q : Nat → Nat} {ls : Array Slot} {L : AL} (h : a_L q ls L) : ls.size = L.length := by
  obtain ⟨l, h1, -⟩ := h
  exact h1.1
theorem j_mabs (C : JR own cc nL Ts R K J) {idx : Nat} {x : Int} (M : aMw Ts own idx Lib.Math.abs.name Lib.Math.abs.code 1) (hL : L.length = nL) (hr : 1 ≤ R.frames ∧ st.length + 13 ≤ R.locals ∧ ce ≤ R.cells ∧ sl ≤ R.slots) (hd : decode cc pc = .ok (.invokestatic idx, 3)) (hX : aR x) (h9 : x ≠ -2147483648) (kk : J q Sh ce sl (pc + 3) L (.inl (x.natAbs : Int) :: st) g) : J q Sh ce sl pc L (.inl x :: st) g := by
  obtain ⟨p, l, e, s, m, args, below, meth, c, A, D, cI, cB, Q, rfl, hx, hb, hml, hown, hts, hK, hA, hret⟩ := C
  intro hw H locs ls hl hP hD hS
  refine va_mabs hx hb (by rw [hml, a_L_size hl, hL]) hown (hts _ M.1) (hts _ M.2.1) (hts _ M.2.2.1) (hts _ M.2.2.2) hr.1 (by rw [a_cats]; exact hr.2.1) hr.2.2.1 hr.2.2.2 hd ?_
  have e9 : (if 0 ≤ i3 x then i3 x else 0 - i3 x) = i3 (x.natAbs : Int) := by
    have e8 : (0 ≤ i3 x) ↔ 0 ≤ x := by rw [← i3_0]; exact i3_le aR_0 hX
    by_cases h : 0 ≤ x
    · rw [if_pos (e8.mpr h)]
      congr 1
      omega
    · rw [if_neg (fun z => h (e8.mp z)), ← i3_0]
      show Int32.ofInt 0 - Int32.ofInt x = Int32.ofInt _
      rw [← Int32.ofInt_sub]
      congr 1
      omega
  rw [e9]
  exact kk hw H locs ls hl hP hD hS
theorem j_mmax (C : JR own cc nL Ts R K J) {idx : Nat} {x y : Int} (M : aMw Ts own idx Lib.Math.max.name Lib.Math.max.code 2) (hL : L.length = nL) (hr : 1 ≤ R.frames ∧ st.length + 13 ≤ R.locals ∧ ce ≤ R.cells ∧ sl ≤ R.slots) (hd : decode cc pc = .ok (.invokestatic idx, 3)) (hX : aR x) (hY : aR y) (kk : J q Sh ce sl (pc + 3) L (.inl (max x y) :: st) g) : J q Sh ce sl pc L (.inl y :: .inl x :: st) g := by
  obtain ⟨p, l, e, s, m, args, below, meth, c, A, D, cI, cB, Q, rfl, hx, hb, hml, hown, hts, hK, hA, hret⟩ := C
  intro hw H locs ls hl hP hD hS
  refine va_mmax hx hb (by rw [hml, a_L_size hl, hL]) hown (hts _ M.1) (hts _ M.2.1) (hts _ M.2.2.1) (hts _ M.2.2.2) hr.1 (by rw [a_cats]; exact hr.2.1) hr.2.2.1 hr.2.2.2 hd ?_
  have e9 : (if i3 x < i3 y then i3 y else i3 x) = i3 (max x y) := by
    by_cases h : x < y
    · rw [if_pos ((i3_lt hX hY).mpr h)]
      congr 1
      omega
    · rw [if_neg (fun z => h ((i3_lt hX hY).mp z))]
      congr 1
      omega
  rw [e9]
  exact kk hw H locs ls hl hP hD hS
theorem j_mmin (C : JR own cc nL Ts R K J) {idx : Nat} {x y : Int} (M : aMw Ts own idx Lib.Math.min.name Lib.Math.min.code 2) (hL : L.length = nL) (hr : 1 ≤ R.frames ∧ st.length + 13 ≤ R.locals ∧ ce ≤ R.cells ∧ sl ≤ R.slots) (hd : decode cc pc = .ok (.invokestatic idx, 3)) (hX : aR x) (hY : aR y) (kk : J q Sh ce sl (pc + 3) L (.inl (min x y) :: st) g) : J q Sh ce sl pc L (.inl y :: .inl x :: st) g := by
  obtain ⟨p, l, e, s, m, args, below, meth, c, A, D, cI, cB, Q, rfl, hx, hb, hml, hown, hts, hK, hA, hret⟩ := C
  intro hw H locs ls hl hP hD hS
  refine va_mmin hx hb (by rw [hml, a_L_size hl, hL]) hown (hts _ M.1) (hts _ M.2.1) (hts _ M.2.2.1) (hts _ M.2.2.2) hr.1 (by rw [a_cats]; exact hr.2.1) hr.2.2.1 hr.2.2.2 hd ?_
  have e9 : (if i3 y < i3 x then i3 y else i3 x) = i3 (min x y) := by
    by_cases h : y < x
    · rw [if_pos ((i3_lt hY hX).mpr h)]
      congr 1
      omega
    · rw [if_neg (fun z => h ((i3_lt hY hX).mp z))]
      congr 1
      omega
  rw [e9]
  exact kk hw H locs ls hl hP hD hS
end JHeap
/-! contracts: a method of which the world keeps its shape -/
abbrev a_P (D : va_G) (cI cB : ClassId) (q : Nat → Nat) (Sh : List AC) (g : AG) (sz : Nat) (U : State) : Prop := U.heap.size = sz ∧ va_P D vwCl (a_w cI cB q g Sh) U.heap ∧ va_K D vwCl (a_t cI cB) U ∧ va_D (fun _ => True) (a_w cI cB q g Sh)
abbrev a_B (D : va_G) (cI cB : ClassId) (q : Nat → Nat) (Sh : List AC) (A : Nat → Prop) (g : AG) (t : State) : Prop := va_P D vwCl (a_w cI cB q g Sh) t.heap ∧ va_K D vwCl (a_t cI cB) t ∧ va_D A (a_w cI cB q g Sh)
def MetI (y : MethodName) (ws : List Cond) (rm : Room) (Sh : List AC) (as : List AV) (g : AG) (K : Int → AG → Prop) : Prop := ∀ (l : Launch) (D : va_G) (cI cB : ClassId) (q : Nat → Nat) (sz : Nat), aW g → Met l y ws rm (va_Pc (as.map (a_v q)) (a_P D cI cB q Sh g sz)) (va_Qi (fun (r : Int32) (g' : AG) => aW g' ∧ ∃ x, r = i3 x ∧ K x g') (a_B D cI cB q Sh (va_A (a_w cI cB q g Sh) sz)) (va_A (a_w cI cB q g Sh) sz)) 0 0 (va_A (a_w cI cB q g Sh) sz)
def MetV (y : MethodName) (ws : List Cond) (rm : Room) (Sh : List AC) (as : List AV) (g : AG) (K : AG → Prop) : Prop := ∀ (l : Launch) (D : va_G) (cI cB : ClassId) (q : Nat → Nat) (sz : Nat), aW g → Met l y ws rm (va_Pc (as.map (a_v q)) (a_P D cI cB q Sh g sz)) (va_Qv (fun (g' : AG) => aW g' ∧ K g') (a_B D cI cB q Sh (va_A (a_w cI cB q g Sh) sz)) (va_A (a_w cI cB q g Sh) sz)) 0 0 (va_A (a_w cI cB q g Sh) sz)
/-- the end of such a method -/
def kI (bo : Bool) (q0 : Nat → Nat) (Sh0 : List AC) (K : Int → AG → Prop) : KT := fun r q Sh ce sl g => q = q0 ∧ Sh = Sh0 ∧ ce = 0 ∧ sl = 0 ∧ ∃ x, r = some x ∧ (bo = true → x = 0 ∨ x = 1) ∧ K x g
def kV (q0 : Nat → Nat) (Sh0 : List AC) (K : AG → Prop) : KT := fun r q Sh ce sl g => q = q0 ∧ Sh = Sh0 ∧ ce = 0 ∧ sl = 0 ∧ r = none ∧ K g
theorem a_w_len (cI cB : ClassId) (q : Nat → Nat) (g : AG) (Sh : List AC) : (a_w cI cB q g Sh).length = Sh.length := by simp [a_w]
theorem a_c_1 (cI cB : ClassId) (q : Nat → Nat) (g : AG) (k : Nat) (c : AC) : (a_c cI cB q g k c).1 = q k := by cases c <;> rfl
theorem va_A_gg (cI cB : ClassId) (q : Nat → Nat) (g g' : AG) (Sh : List AC) (sz a : Nat) : va_A (a_w cI cB q g Sh) sz a → va_A (a_w cI cB q g' Sh) sz a := by
  rintro (⟨k, e, h⟩ | h)
  · left
    unfold a_w at h ⊢
    rw [List.getElem?_mapIdx] at h
    cases hc : Sh[k]? with
    | none => rw [hc] at h; cases h
    | some c0 =>
      rw [hc] at h
      have h1 : a_c cI cB q g k c0 = (a, e) := Option.some.inj h
      refine ⟨k, (a_c cI cB q g' k c0).2, ?_⟩
      rw [List.getElem?_mapIdx, hc]
      show some (a_c cI cB q g' k c0) = _
      have h2 : (a_c cI cB q g' k c0).1 = a := by rw [a_c_1, ← a_c_1 cI cB q g k c0, h1]
      rw [← h2]
  · exact Or.inr h
theorem a_entry (q : Nat → Nat) : ∀ (as : List AV) (n : Nat), lv_args n (as.map (a_v q)) = as.mapIdx (fun i v => (n + i, a_v q v))
  | [], n => rfl
  | v :: as, n => by
    rw [List.map_cons, List.mapIdx_cons]
    have e9 : lv_args n (a_v q v :: as.map (a_v q)) = (n, a_v q v) :: lv_args (n + 1) (as.map (a_v q)) := by
      cases v <;> rfl
    rw [e9, a_entry q as (n + 1)]
    congr 1
    congr 1
    funext i v
    congr 1
    omega
theorem a_slots (q : Nat → Nat) : ∀ (as : List AV), (lg_sl (as.map (a_v q))).length = as.length
  | [] => rfl
  | v :: as => by
    have e9 : lg_sl (a_v q v :: as.map (a_v q)) = .val (a_v q v) :: lg_sl (as.map (a_v q)) := by
      cases v <;> rfl
    rw [List.map_cons, e9, List.length_cons, List.length_cons, a_slots q as]
abbrev a_L0 (as : List AV) (nL : Nat) : AL := as.map some ++ List.replicate (nL - as.length) none
theorem a_L_entry (q : Nat → Nat) (as : List AV) {nL : Nat} (h : as.length ≤ nL) : a_L q ((lg_sl (as.map (a_v q)) ++ List.replicate (nL - (lg_sl (as.map (a_v q))).length) Slot.unset).toArray) (a_L0 as nL) := by
  have h1 := lv_entry (as.map (a_v q)) (n := nL) (by rw [a_slots]; exact h)
  have e9 : (a_L0 as nL).length = nL := by simp [a_L0]; omega
  refine ⟨_, by rw [e9]; exact h1, fun i v hi => ?_⟩
  rw [a_entry]
  have h2 : as[i]? = some v := by
    by_cases hl : i < as.length
    · rw [List.getElem?_append_left (by simpa using hl), List.getElem?_map] at hi
      cases hc : as[i]? with
      | none => rw [hc] at hi; cases hi
      | some z => rw [hc] at hi; cases hi; rfl
    · rw [List.getElem?_append_right (by simpa using hl)] at hi
      have := List.mem_of_getElem? hi
      rw [List.mem_replicate] at this
      cases this.2
  apply List.mem_of_getElem? (i := i)
  rw [List.getElem?_mapIdx, h2]
  simp
set_option maxHeartbeats 4000000 in
theorem metI_of {y : MethodName} {ws ws' : List Cond} {rm : Room} {Sh : List AC} {as : List AV} {g : AG} {K : Int → AG → Prop} {cc : ByteArray} {nL : Nat} (bo : Bool) (hy : plainName y.cls = true) (hw : ws = Cond.code y cc nL (some (if bo then .boolean else .int)) :: ws') (hn : as.length ≤ nL)
    (body : ∀ (q : Nat → Nat) (J : JT), JR y.cls cc nL ws rm (kI bo q Sh K) J → J q Sh 0 0 0 (a_L0 as nL) [] g) : MetI y ws rm Sh as g K := by
  intro l D cI cB q sz hwf
  refine Met.ofW (cc := cc) (maxL := nL) (ret := some (if bo then .boolean else .int)) hy hw ?_
  intro p e s m args below meth c s₁ B hml hv
  obtain ⟨hv0, hsz, hP, hK, hD0⟩ := hv
  subst hv0
  subst hsz
  have hts := atoms_spec (ws := ws) B.pre
  have hown : s.vm.findClass y.cls = some m.cls := findClass_of_methodNamed B.named
  have hlocks := B.notSynchronized
  have hD := hD0.self (sz := s.heap.size)
  have C : JR y.cls cc nL ws rm (kI bo q Sh K) (a_J p l e rm s m (as.map (a_v q)).toArray below meth c (va_A (a_w cI cB q g Sh) s.heap.size) D cI cB (MQ below (va_Qi (fun (r : Int32) (g' : AG) => aW g' ∧ ∃ x, r = i3 x ∧ K x g') (a_B D cI cB q Sh (va_A (a_w cI cB q g Sh) s.heap.size)) (va_A (a_w cI cB q g Sh) s.heap.size)) (as.map (a_v q)).toArray s 0 0 (va_A (a_w cI cB q g Sh) s.heap.size))) := by
    refine ⟨p, l, e, s, m, (as.map (a_v q)).toArray, below, meth, c, va_A (a_w cI cB q g Sh) s.heap.size, D, cI, cB, _, rfl, B.exec, B.bytes, hml, hown, hts, hK, fun q h => Or.inr h, ?_⟩
    intro r q2 Sh2 ce sl g2 H locs ls pc hk hw2 hP2 hD2 hS2
    obtain ⟨rfl, rfl, rfl, rfl, x, rfl, hbo, hkx⟩ := hk
    refine ⟨fun x2 h2 hd => ?_, fun h2 => by cases h2⟩
    cases h2
    exact W.zret (v := i3 x) B.exec B.bytes B.returns (a_nar hbo).1 (fun t ht hW => ⟨⟨i3 x, g2, rfl, ⟨hw2, x, rfl, hkx⟩, by rw [ht]; exact hP2, va_K.moved hW.alike hK, hD2⟩, hS2.F ht⟩) hS2.2.2 hd
  have h1 := body q _ C hwf s.heap [] _ (a_L_entry q as hn) hP hD va_S.rf
  rw [lg_entry_eq]
  exact h1
set_option maxHeartbeats 4000000 in
theorem metV_of {y : MethodName} {ws ws' : List Cond} {rm : Room} {Sh : List AC} {as : List AV} {g : AG} {K : AG → Prop} {cc : ByteArray} {nL : Nat} (hy : plainName y.cls = true) (hw : ws = Cond.code y cc nL none :: ws') (hn : as.length ≤ nL)
    (body : ∀ (q : Nat → Nat) (J : JT), JR y.cls cc nL ws rm (kV q Sh K) J → J q Sh 0 0 0 (a_L0 as nL) [] g) : MetV y ws rm Sh as g K := by
  intro l D cI cB q sz hwf
  refine Met.ofW (cc := cc) (maxL := nL) (ret := none) hy hw ?_
  intro p e s m args below meth c s₁ B hml hv
  obtain ⟨hv0, hsz, hP, hK, hD0⟩ := hv
  subst hv0
  subst hsz
  have hts := atoms_spec (ws := ws) B.pre
  have hown : s.vm.findClass y.cls = some m.cls := findClass_of_methodNamed B.named
  have hlocks := B.notSynchronized
  have hD := hD0.self (sz := s.heap.size)
  have C : JR y.cls cc nL ws rm (kV q Sh K) (a_J p l e rm s m (as.map (a_v q)).toArray below meth c (va_A (a_w cI cB q g Sh) s.heap.size) D cI cB (MQ below (va_Qv (fun (g' : AG) => aW g' ∧ K g') (a_B D cI cB q Sh (va_A (a_w cI cB q g Sh) s.heap.size)) (va_A (a_w cI cB q g Sh) s.heap.size)) (as.map (a_v q)).toArray s 0 0 (va_A (a_w cI cB q g Sh) s.heap.size))) := by
    refine ⟨p, l, e, s, m, (as.map (a_v q)).toArray, below, meth, c, va_A (a_w cI cB q g Sh) s.heap.size, D, cI, cB, _, rfl, B.exec, B.bytes, hml, hown, hts, hK, fun q h => Or.inr h, ?_⟩
    intro r q2 Sh2 ce sl g2 H locs ls pc hk hw2 hP2 hD2 hS2
    obtain ⟨rfl, rfl, rfl, rfl, rfl, hkx⟩ := hk
    refine ⟨fun x2 h2 => (by cases h2), fun h2 hd => ?_⟩
    exact W.vret B.exec B.bytes B.returns (fun t ht hW => ⟨⟨g2, rfl, ⟨hw2, hkx⟩, by rw [ht]; exact hP2, va_K.moved hW.alike hK, hD2⟩, hS2.F ht⟩) hS2.2.2 hd
  have h1 := body q _ C hwf s.heap [] _ (a_L_entry q as hn) hP hD va_S.rf
  rw [lg_entry_eq]
  exact h1
/-! calls -/
def aCV (Ts : List Cond) (R : Room) (own : String) (idx : Nat) (ci : Nat) (y : MethodName) (ws : List Cond) (rm : Room) (n : Nat) : Prop := ∃ (T : u_T) (N : Nat) (bytes : ByteArray) (maxL : Nat) (ret : Option FieldType) (ws' : List Cond), vwCl[ci]? = some (y.cls, T, N) ∧ GoodIn Ts (wsV own idx y.cls y ws) ∧ ws = Cond.code y bytes maxL ret :: ws' ∧ rm.cells = 0 ∧ rm.slots = 0 ∧ (y.cls ≠ "java/lang/invoke/MethodHandle" ∧ y.cls ≠ "java/lang/invoke/VarHandle" ∧ (parseMethodDescriptor y.desc).map (fun d => d.parameters.length) = some n) ∧ (rm.frames + 1 ≤ R.frames ∧ 8 + (maxL + 11) + rm.locals ≤ R.locals)
def aCS (Ts : List Cond) (R : Room) (own : String) (idx : Nat) (y : MethodName) (ws : List Cond) (rm : Room) (n : Nat) : Prop := ∃ (bytes : ByteArray) (maxL : Nat) (ret : Option FieldType) (ws' : List Cond), GoodIn Ts (va_wsS own idx y ws) ∧ ws = Cond.code y bytes maxL ret :: ws' ∧ rm.cells = 0 ∧ rm.slots = 0 ∧ (y.cls ≠ "java/lang/invoke/MethodHandle" ∧ y.cls ≠ "java/lang/invoke/VarHandle" ∧ (parseMethodDescriptor y.desc).map (fun d => d.parameters.length) = some n) ∧ (rm.frames + 1 ≤ R.frames ∧ 8 + (maxL + 11) + rm.locals ≤ R.locals)
theorem a_blind {D : va_G} {cI cB : ClassId} {q : Nat → Nat} {Sh : List AC} {g : AG} {sz : Nat} (av : List Value) : FrameBlind (va_Pc av (a_P D cI cB q Sh g sz)) := fun a U gg mk z => by
  obtain ⟨q0, q1, qP, qK, qD⟩ := z
  exact ⟨q0, q1, qP, va_K.moved (u := U) (U := U.calling gg mk a) (Vm.Alike.refl U.vm) qK, qD⟩
theorem a_free {A : Nat → Prop} {cI cB : ClassId} {q : Nat → Nat} {g : AG} {Sh : List AC} {H0 H : Heap} {locs : List Loc} (hD : va_D A (a_w cI cB q g Sh)) (hS : va_S A H0 H locs) (hA : ∀ a, H0.size ≤ a → A a) : ∀ a, va_A (a_w cI cB q g Sh) H.size a → A a := by
  rintro a (⟨k, e, h⟩ | h)
  · exact hD.2 k _ h
  · exact hA a (Nat.le_trans hS.1 h)
section JCalls
variable {own : String} {cc : ByteArray} {nL : Nat} {Ts : List Cond} {R : Room} {K : KT} {J : JT} {q : Nat → Nat} {Sh : List AC} {ce sl pc : Nat} {L : AL} {st : List AV} {g : AG}
variable {idx ci n k0 : Nat} {y : MethodName} {ws : List Cond} {rm : Room} {as : List AV} {fs : List AF}
set_option maxHeartbeats 4000000 in
theorem j_callVi {K0 : Int → AG → Prop} (C : JR own cc nL Ts R K J) (B : aCV Ts R own idx ci y ws rm n) (hs : Sh[k0]? = some (.inl (ci, fs))) (hn : as.length = n) (hL : L.length = nL) (hst : st.length ≤ 8) (hr : ce ≤ R.cells ∧ sl ≤ R.slots) (hd : decode cc pc = .ok (.invokevirtual idx, 3)) (hM : MetI y ws rm Sh (.inr k0 :: as) g K0) (kk : (∀ (x : Int) (g' : AG), K0 x g' → J q Sh ce sl (pc + 3) L (.inl x :: st) g')) : J q Sh ce sl pc L (as.reverse ++ .inr k0 :: st) g := by
  obtain ⟨p, l, e, s, m, args, below, meth, c, A, D, cI, cB, Q, rfl, hx, hb, hml, hown, hts, hK, hA, hret⟩ := C
  intro hw H locs ls hl hP hD hS
  obtain ⟨T, N, bytes, maxL, ret, ws', b0, b1, b2, b3, b4, b5, b6⟩ := B
  have hF := a_free hD hS hA
  have hrun := va_runV (As := as.map (a_v q)) (rest := st.map (a_v q)) (g := F0 m pc ls ((as.reverse ++ Sum.inr k0 :: st).map (a_v q))) (b := q k0) (H := H) (locs := locs) (e := e) (below := below) (meth := meth) (cells := ce) (slots := sl) ⟨hx, hb, hml, hown, hts⟩ (hM l D cI cB q H.size hw) (cwV n hts b1 b2 b3 b4 ⟨rfl, b5⟩ b6) ⟨a_blind _, va_recv hK hP (q0 := k0) b0 (a_w_at hs), fun U hU hW => ⟨rfl, by rw [hU], by rw [hU]; exact hP, va_K.moved hW.alike hK, hD.weaken (fun _ _ _ _ => trivial)⟩⟩ rfl (by rw [List.length_map]; exact hn) ((a_L_size hl).trans hL) (by simp [a_v]) (lv_room (by rw [a_cats]; exact hst)) hd hr
  refine va_calli hrun hS (fun a _ h => hF a h) hF (fun r g' t H1 locs1 ht hvm hpost hB hz1 hk1 hS1 => ?_)
  obtain ⟨hw', x, rfl, hkx⟩ := hpost
  obtain ⟨hP1, hK1, hD1⟩ := hB
  rw [ht] at hP1
  exact kk x g' hkx hw' H1 locs1 ls hl hP1 (hD1.weaken (fun _ _ _ h => hF _ h)) hS1
set_option maxHeartbeats 4000000 in
theorem j_callSi {K0 : Int → AG → Prop} (C : JR own cc nL Ts R K J) (B : aCS Ts R own idx y ws rm n) (hn : as.length = n) (hL : L.length = nL) (hst : st.length ≤ 8) (hr : ce ≤ R.cells ∧ sl ≤ R.slots) (hd : decode cc pc = .ok (.invokestatic idx, 3)) (hM : MetI y ws rm Sh as g K0) (kk : (∀ (x : Int) (g' : AG), K0 x g' → J q Sh ce sl (pc + 3) L (.inl x :: st) g')) : J q Sh ce sl pc L (as.reverse ++ st) g := by
  obtain ⟨p, l, e, s, m, args, below, meth, c, A, D, cI, cB, Q, rfl, hx, hb, hml, hown, hts, hK, hA, hret⟩ := C
  intro hw H locs ls hl hP hD hS
  obtain ⟨bytes, maxL, ret, ws', b1, b2, b3, b4, b5, b6⟩ := B
  have hF := a_free hD hS hA
  have hrun := va_runS (As := as.map (a_v q)) (rest := st.map (a_v q)) (g := F0 m pc ls ((as.reverse ++ st).map (a_v q))) (H := H) (locs := locs) (e := e) (below := below) (meth := meth) (cells := ce) (slots := sl) ⟨hx, hb, hml, hown, hts⟩ (hM l D cI cB q H.size hw) (va_cwS n hts b1 b2 b3 b4 b5 b6) ⟨a_blind _, fun U hU hW => ⟨rfl, by rw [hU], by rw [hU]; exact hP, va_K.moved hW.alike hK, hD.weaken (fun _ _ _ _ => trivial)⟩⟩ rfl (by rw [List.length_map]; exact hn) ((a_L_size hl).trans hL) (by simp [a_v]) (lv_room (by rw [a_cats]; exact hst)) hd hr
  refine va_calli hrun hS (fun a _ h => hF a h) hF (fun r g' t H1 locs1 ht hvm hpost hB hz1 hk1 hS1 => ?_)
  obtain ⟨hw', x, rfl, hkx⟩ := hpost
  obtain ⟨hP1, hK1, hD1⟩ := hB
  rw [ht] at hP1
  exact kk x g' hkx hw' H1 locs1 ls hl hP1 (hD1.weaken (fun _ _ _ h => hF _ h)) hS1
set_option maxHeartbeats 4000000 in
theorem j_callVv {K0 : AG → Prop} (C : JR own cc nL Ts R K J) (B : aCV Ts R own idx ci y ws rm n) (hs : Sh[k0]? = some (.inl (ci, fs))) (hn : as.length = n) (hL : L.length = nL) (hst : st.length ≤ 8) (hr : ce ≤ R.cells ∧ sl ≤ R.slots) (hd : decode cc pc = .ok (.invokevirtual idx, 3)) (hM : MetV y ws rm Sh (.inr k0 :: as) g K0) (kk : (∀ (g' : AG), K0 g' → J q Sh ce sl (pc + 3) L st g')) : J q Sh ce sl pc L (as.reverse ++ .inr k0 :: st) g := by
  obtain ⟨p, l, e, s, m, args, below, meth, c, A, D, cI, cB, Q, rfl, hx, hb, hml, hown, hts, hK, hA, hret⟩ := C
  intro hw H locs ls hl hP hD hS
  obtain ⟨T, N, bytes, maxL, ret, ws', b0, b1, b2, b3, b4, b5, b6⟩ := B
  have hF := a_free hD hS hA
  have hrun := va_runV (As := as.map (a_v q)) (rest := st.map (a_v q)) (g := F0 m pc ls ((as.reverse ++ Sum.inr k0 :: st).map (a_v q))) (b := q k0) (H := H) (locs := locs) (e := e) (below := below) (meth := meth) (cells := ce) (slots := sl) ⟨hx, hb, hml, hown, hts⟩ (hM l D cI cB q H.size hw) (cwV n hts b1 b2 b3 b4 ⟨rfl, b5⟩ b6) ⟨a_blind _, va_recv hK hP (q0 := k0) b0 (a_w_at hs), fun U hU hW => ⟨rfl, by rw [hU], by rw [hU]; exact hP, va_K.moved hW.alike hK, hD.weaken (fun _ _ _ _ => trivial)⟩⟩ rfl (by rw [List.length_map]; exact hn) ((a_L_size hl).trans hL) (by simp [a_v]) (lv_room (by rw [a_cats]; exact hst)) hd hr
  refine va_callv hrun hS (fun a _ h => hF a h) hF (fun g' t H1 locs1 ht hvm hpost hB hz1 hk1 hS1 => ?_)
  obtain ⟨hw', hkx⟩ := hpost
  obtain ⟨hP1, hK1, hD1⟩ := hB
  rw [ht] at hP1
  exact kk g' hkx hw' H1 locs1 ls hl hP1 (hD1.weaken (fun _ _ _ h => hF _ h)) hS1
set_option maxHeartbeats 4000000 in
theorem j_callSv {K0 : AG → Prop} (C : JR own cc nL Ts R K J) (B : aCS Ts R own idx y ws rm n) (hn : as.length = n) (hL : L.length = nL) (hst : st.length ≤ 8) (hr : ce ≤ R.cells ∧ sl ≤ R.slots) (hd : decode cc pc = .ok (.invokestatic idx, 3)) (hM : MetV y ws rm Sh as g K0) (kk : (∀ (g' : AG), K0 g' → J q Sh ce sl (pc + 3) L st g')) : J q Sh ce sl pc L (as.reverse ++ st) g := by
  obtain ⟨p, l, e, s, m, args, below, meth, c, A, D, cI, cB, Q, rfl, hx, hb, hml, hown, hts, hK, hA, hret⟩ := C
  intro hw H locs ls hl hP hD hS
  obtain ⟨bytes, maxL, ret, ws', b1, b2, b3, b4, b5, b6⟩ := B
  have hF := a_free hD hS hA
  have hrun := va_runS (As := as.map (a_v q)) (rest := st.map (a_v q)) (g := F0 m pc ls ((as.reverse ++ st).map (a_v q))) (H := H) (locs := locs) (e := e) (below := below) (meth := meth) (cells := ce) (slots := sl) ⟨hx, hb, hml, hown, hts⟩ (hM l D cI cB q H.size hw) (va_cwS n hts b1 b2 b3 b4 b5 b6) ⟨a_blind _, fun U hU hW => ⟨rfl, by rw [hU], by rw [hU]; exact hP, va_K.moved hW.alike hK, hD.weaken (fun _ _ _ _ => trivial)⟩⟩ rfl (by rw [List.length_map]; exact hn) ((a_L_size hl).trans hL) (by simp [a_v]) (lv_room (by rw [a_cats]; exact hst)) hd hr
  refine va_callv hrun hS (fun a _ h => hF a h) hF (fun g' t H1 locs1 ht hvm hpost hB hz1 hk1 hS1 => ?_)
  obtain ⟨hw', hkx⟩ := hpost
  obtain ⟨hP1, hK1, hD1⟩ := hB
  rw [ht] at hP1
  exact kk g' hkx hw' H1 locs1 ls hl hP1 (hD1.weaken (fun _ _ _ h => hF _ h)) hS1
end JCalls
end
section
set_option maxRecDepth 20000 in
theorem ggX0_init_X0_forget : GoodIn wsX0_init wsX0_forget := goodIn_r _ [16, 17, 18, 10, 11, 19, 20, 21, 22, 23, 24, 25, 26] (by decide +kernel) (by decide +kernel)
set_option maxRecDepth 20000 in
theorem gX0_init_X0_forget : GoodIn wsX0_init (wsV RX0 31 RX0 yX0_forget wsX0_forget) := goodIn_app (goodIn_of _ (by decide +kernel)) ggX0_init_X0_forget
theorem dX0_init_0 : decode cX0_init 0 = .ok (.aload_n 0, 1) := by decide +kernel
theorem dX0_init_1 : decode cX0_init 1 = .ok (.invokespecial 3, 3) := by decide +kernel
theorem dX0_init_4 : decode cX0_init 4 = .ok (.aload_n 0, 1) := by decide +kernel
theorem dX0_init_5 : decode cX0_init 5 = .ok (.bipush 100, 2) := by decide +kernel
theorem dX0_init_7 : decode cX0_init 7 = .ok (.newarray .int, 2) := by decide +kernel
theorem dX0_init_9 : decode cX0_init 9 = .ok (.putfield 9, 3) := by decide +kernel
theorem dX0_init_12 : decode cX0_init 12 = .ok (.aload_n 0, 1) := by decide +kernel
theorem dX0_init_13 : decode cX0_init 13 = .ok (.bipush 100, 2) := by decide +kernel
theorem dX0_init_15 : decode cX0_init 15 = .ok (.newarray .int, 2) := by decide +kernel
theorem dX0_init_17 : decode cX0_init 17 = .ok (.putfield 15, 3) := by decide +kernel
theorem dX0_init_20 : decode cX0_init 20 = .ok (.aload_n 0, 1) := by decide +kernel
theorem dX0_init_21 : decode cX0_init 21 = .ok (.bipush 100, 2) := by decide +kernel
theorem dX0_init_23 : decode cX0_init 23 = .ok (.newarray .int, 2) := by decide +kernel
theorem dX0_init_25 : decode cX0_init 25 = .ok (.putfield 18, 3) := by decide +kernel
theorem dX0_init_28 : decode cX0_init 28 = .ok (.aload_n 0, 1) := by decide +kernel
theorem dX0_init_29 : decode cX0_init 29 = .ok (.bipush 100, 2) := by decide +kernel
theorem dX0_init_31 : decode cX0_init 31 = .ok (.newarray .boolean, 2) := by decide +kernel
theorem dX0_init_33 : decode cX0_init 33 = .ok (.putfield 21, 3) := by decide +kernel
theorem dX0_init_36 : decode cX0_init 36 = .ok (.aload_n 0, 1) := by decide +kernel
theorem dX0_init_37 : decode cX0_init 37 = .ok (.bipush 64, 2) := by decide +kernel
theorem dX0_init_39 : decode cX0_init 39 = .ok (.newarray .int, 2) := by decide +kernel
theorem dX0_init_41 : decode cX0_init 41 = .ok (.putfield 25, 3) := by decide +kernel
theorem dX0_init_44 : decode cX0_init 44 = .ok (.aload_n 0, 1) := by decide +kernel
theorem dX0_init_45 : decode cX0_init 45 = .ok (.bipush 64, 2) := by decide +kernel
theorem dX0_init_47 : decode cX0_init 47 = .ok (.newarray .int, 2) := by decide +kernel
theorem dX0_init_49 : decode cX0_init 49 = .ok (.putfield 28, 3) := by decide +kernel
theorem dX0_init_52 : decode cX0_init 52 = .ok (.aload_n 0, 1) := by decide +kernel
theorem dX0_init_53 : decode cX0_init 53 = .ok (.invokevirtual 31, 3) := by decide +kernel
theorem dX0_init_56 : decode cX0_init 56 = .ok (.return_, 1) := by decide +kernel
theorem dX0_forget_0 : decode cX0_forget 0 = .ok (.aload_n 0, 1) := by decide +kernel
theorem dX0_forget_1 : decode cX0_forget 1 = .ok (.iconst 0, 1) := by decide +kernel
theorem dX0_forget_2 : decode cX0_forget 2 = .ok (.putfield 34, 3) := by decide +kernel
theorem dX0_forget_5 : decode cX0_forget 5 = .ok (.aload_n 0, 1) := by decide +kernel
theorem dX0_forget_6 : decode cX0_forget 6 = .ok (.iconst 0, 1) := by decide +kernel
theorem dX0_forget_7 : decode cX0_forget 7 = .ok (.putfield 38, 3) := by decide +kernel
theorem dX0_forget_10 : decode cX0_forget 10 = .ok (.iconst 0, 1) := by decide +kernel
theorem dX0_forget_11 : decode cX0_forget 11 = .ok (.istore_n 1, 1) := by decide +kernel
theorem dX0_forget_12 : decode cX0_forget 12 = .ok (.iload_n 1, 1) := by decide +kernel
theorem dX0_forget_13 : decode cX0_forget 13 = .ok (.bipush 64, 2) := by decide +kernel
theorem dX0_forget_15 : decode cX0_forget 15 = .ok (.if_icmp .ge 23, 3) := by decide +kernel
theorem dX0_forget_18 : decode cX0_forget 18 = .ok (.aload_n 0, 1) := by decide +kernel
theorem dX0_forget_19 : decode cX0_forget 19 = .ok (.getfield 25, 3) := by decide +kernel
theorem dX0_forget_22 : decode cX0_forget 22 = .ok (.iload_n 1, 1) := by decide +kernel
theorem dX0_forget_23 : decode cX0_forget 23 = .ok (.iload_n 1, 1) := by decide +kernel
theorem dX0_forget_24 : decode cX0_forget 24 = .ok (.iastore, 1) := by decide +kernel
theorem dX0_forget_25 : decode cX0_forget 25 = .ok (.aload_n 0, 1) := by decide +kernel
theorem dX0_forget_26 : decode cX0_forget 26 = .ok (.getfield 28, 3) := by decide +kernel
theorem dX0_forget_29 : decode cX0_forget 29 = .ok (.iload_n 1, 1) := by decide +kernel
theorem dX0_forget_30 : decode cX0_forget 30 = .ok (.iconst 0, 1) := by decide +kernel
theorem dX0_forget_31 : decode cX0_forget 31 = .ok (.iastore, 1) := by decide +kernel
theorem dX0_forget_32 : decode cX0_forget 32 = .ok (.iinc 1 1, 3) := by decide +kernel
theorem dX0_forget_35 : decode cX0_forget 35 = .ok (.goto (-23), 3) := by decide +kernel
theorem dX0_forget_38 : decode cX0_forget 38 = .ok (.return_, 1) := by decide +kernel
set_option maxRecDepth 20000 in
theorem ggX0_add_X0_knotOfTime : GoodIn wsX0_add wsX0_knotOfTime := goodIn_r _ [10] (by decide +kernel) (by decide +kernel)
set_option maxRecDepth 20000 in
theorem gX0_add_X0_knotOfTime : GoodIn wsX0_add (va_wsS RX0 41 yX0_knotOfTime wsX0_knotOfTime) := goodIn_app (goodIn_of _ (by decide +kernel)) ggX0_add_X0_knotOfTime
set_option maxRecDepth 20000 in
theorem ggX0_add_X0_fit : GoodIn wsX0_add wsX0_fit := goodIn_r _ [14, 15, 16, 17, 18, 19, 20, 21, 22, 23, 24] (by decide +kernel) (by decide +kernel)
set_option maxRecDepth 20000 in
theorem gX0_add_X0_fit : GoodIn wsX0_add (wsV RX0 45 RX0 yX0_fit wsX0_fit) := goodIn_app (goodIn_of _ (by decide +kernel)) ggX0_add_X0_fit
theorem dX0_add_0 : decode cX0_add 0 = .ok (.aload_n 0, 1) := by decide +kernel
theorem dX0_add_1 : decode cX0_add 1 = .ok (.iload_n 1, 1) := by decide +kernel
theorem dX0_add_2 : decode cX0_add 2 = .ok (.invokestatic 41, 3) := by decide +kernel
theorem dX0_add_5 : decode cX0_add 5 = .ok (.iload_n 2, 1) := by decide +kernel
theorem dX0_add_6 : decode cX0_add 6 = .ok (.iload_n 3, 1) := by decide +kernel
theorem dX0_add_7 : decode cX0_add 7 = .ok (.invokevirtual 45, 3) := by decide +kernel
theorem dX0_add_10 : decode cX0_add 10 = .ok (.istore 4, 2) := by decide +kernel
theorem dX0_add_12 : decode cX0_add 12 = .ok (.aload_n 0, 1) := by decide +kernel
theorem dX0_add_13 : decode cX0_add 13 = .ok (.getfield 9, 3) := by decide +kernel
theorem dX0_add_16 : decode cX0_add 16 = .ok (.aload_n 0, 1) := by decide +kernel
theorem dX0_add_17 : decode cX0_add 17 = .ok (.getfield 34, 3) := by decide +kernel
theorem dX0_add_20 : decode cX0_add 20 = .ok (.iload_n 1, 1) := by decide +kernel
theorem dX0_add_21 : decode cX0_add 21 = .ok (.iastore, 1) := by decide +kernel
theorem dX0_add_22 : decode cX0_add 22 = .ok (.aload_n 0, 1) := by decide +kernel
theorem dX0_add_23 : decode cX0_add 23 = .ok (.getfield 15, 3) := by decide +kernel
theorem dX0_add_26 : decode cX0_add 26 = .ok (.aload_n 0, 1) := by decide +kernel
theorem dX0_add_27 : decode cX0_add 27 = .ok (.getfield 34, 3) := by decide +kernel
theorem dX0_add_30 : decode cX0_add 30 = .ok (.iload_n 2, 1) := by decide +kernel
theorem dX0_add_31 : decode cX0_add 31 = .ok (.iastore, 1) := by decide +kernel
theorem dX0_add_32 : decode cX0_add 32 = .ok (.aload_n 0, 1) := by decide +kernel
theorem dX0_add_33 : decode cX0_add 33 = .ok (.getfield 18, 3) := by decide +kernel
theorem dX0_add_36 : decode cX0_add 36 = .ok (.aload_n 0, 1) := by decide +kernel
theorem dX0_add_37 : decode cX0_add 37 = .ok (.getfield 34, 3) := by decide +kernel
theorem dX0_add_40 : decode cX0_add 40 = .ok (.iload_n 3, 1) := by decide +kernel
theorem dX0_add_41 : decode cX0_add 41 = .ok (.iastore, 1) := by decide +kernel
theorem dX0_add_42 : decode cX0_add 42 = .ok (.aload_n 0, 1) := by decide +kernel
theorem dX0_add_43 : decode cX0_add 43 = .ok (.getfield 21, 3) := by decide +kernel
theorem dX0_add_46 : decode cX0_add 46 = .ok (.aload_n 0, 1) := by decide +kernel
theorem dX0_add_47 : decode cX0_add 47 = .ok (.getfield 34, 3) := by decide +kernel
theorem dX0_add_50 : decode cX0_add 50 = .ok (.iload 4, 2) := by decide +kernel
theorem dX0_add_52 : decode cX0_add 52 = .ok (.bastore, 1) := by decide +kernel
theorem dX0_add_53 : decode cX0_add 53 = .ok (.aload_n 0, 1) := by decide +kernel
theorem dX0_add_54 : decode cX0_add 54 = .ok (.dup, 1) := by decide +kernel
theorem dX0_add_55 : decode cX0_add 55 = .ok (.getfield 34, 3) := by decide +kernel
theorem dX0_add_58 : decode cX0_add 58 = .ok (.iconst 1, 1) := by decide +kernel
theorem dX0_add_59 : decode cX0_add 59 = .ok (.iadd, 1) := by decide +kernel
theorem dX0_add_60 : decode cX0_add 60 = .ok (.putfield 34, 3) := by decide +kernel
theorem dX0_add_63 : decode cX0_add 63 = .ok (.iload 4, 2) := by decide +kernel
theorem dX0_add_65 : decode cX0_add 65 = .ok (.ifCond .eq 13, 3) := by decide +kernel
theorem dX0_add_68 : decode cX0_add 68 = .ok (.aload_n 0, 1) := by decide +kernel
theorem dX0_add_69 : decode cX0_add 69 = .ok (.dup, 1) := by decide +kernel
theorem dX0_add_70 : decode cX0_add 70 = .ok (.getfield 38, 3) := by decide +kernel
theorem dX0_add_73 : decode cX0_add 73 = .ok (.iconst 1, 1) := by decide +kernel
theorem dX0_add_74 : decode cX0_add 74 = .ok (.iadd, 1) := by decide +kernel
theorem dX0_add_75 : decode cX0_add 75 = .ok (.putfield 38, 3) := by decide +kernel
theorem dX0_add_78 : decode cX0_add 78 = .ok (.iload 4, 2) := by decide +kernel
theorem dX0_add_80 : decode cX0_add 80 = .ok (.ireturn, 1) := by decide +kernel
theorem dX0_fit_0 : decode cX0_fit 0 = .ok (.aload_n 0, 1) := by decide +kernel
theorem dX0_fit_1 : decode cX0_fit 1 = .ok (.getfield 25, 3) := by decide +kernel
theorem dX0_fit_4 : decode cX0_fit 4 = .ok (.iload_n 1, 1) := by decide +kernel
theorem dX0_fit_5 : decode cX0_fit 5 = .ok (.iaload, 1) := by decide +kernel
theorem dX0_fit_6 : decode cX0_fit 6 = .ok (.aload_n 0, 1) := by decide +kernel
theorem dX0_fit_7 : decode cX0_fit 7 = .ok (.getfield 25, 3) := by decide +kernel
theorem dX0_fit_10 : decode cX0_fit 10 = .ok (.iload_n 2, 1) := by decide +kernel
theorem dX0_fit_11 : decode cX0_fit 11 = .ok (.iaload, 1) := by decide +kernel
theorem dX0_fit_12 : decode cX0_fit 12 = .ok (.if_icmp .ne 26, 3) := by decide +kernel
theorem dX0_fit_15 : decode cX0_fit 15 = .ok (.aload_n 0, 1) := by decide +kernel
theorem dX0_fit_16 : decode cX0_fit 16 = .ok (.getfield 28, 3) := by decide +kernel
theorem dX0_fit_19 : decode cX0_fit 19 = .ok (.iload_n 1, 1) := by decide +kernel
theorem dX0_fit_20 : decode cX0_fit 20 = .ok (.iaload, 1) := by decide +kernel
theorem dX0_fit_21 : decode cX0_fit 21 = .ok (.aload_n 0, 1) := by decide +kernel
theorem dX0_fit_22 : decode cX0_fit 22 = .ok (.getfield 28, 3) := by decide +kernel
theorem dX0_fit_25 : decode cX0_fit 25 = .ok (.iload_n 2, 1) := by decide +kernel
theorem dX0_fit_26 : decode cX0_fit 26 = .ok (.iaload, 1) := by decide +kernel
theorem dX0_fit_27 : decode cX0_fit 27 = .ok (.isub, 1) := by decide +kernel
theorem dX0_fit_28 : decode cX0_fit 28 = .ok (.iload_n 3, 1) := by decide +kernel
theorem dX0_fit_29 : decode cX0_fit 29 = .ok (.if_icmp .ne 7, 3) := by decide +kernel
theorem dX0_fit_32 : decode cX0_fit 32 = .ok (.iconst 1, 1) := by decide +kernel
theorem dX0_fit_33 : decode cX0_fit 33 = .ok (.goto 4, 3) := by decide +kernel
theorem dX0_fit_36 : decode cX0_fit 36 = .ok (.iconst 0, 1) := by decide +kernel
theorem dX0_fit_37 : decode cX0_fit 37 = .ok (.ireturn, 1) := by decide +kernel
theorem dX0_fit_38 : decode cX0_fit 38 = .ok (.aload_n 0, 1) := by decide +kernel
theorem dX0_fit_39 : decode cX0_fit 39 = .ok (.getfield 28, 3) := by decide +kernel
theorem dX0_fit_42 : decode cX0_fit 42 = .ok (.iload_n 1, 1) := by decide +kernel
theorem dX0_fit_43 : decode cX0_fit 43 = .ok (.iaload, 1) := by decide +kernel
theorem dX0_fit_44 : decode cX0_fit 44 = .ok (.iload_n 3, 1) := by decide +kernel
theorem dX0_fit_45 : decode cX0_fit 45 = .ok (.isub, 1) := by decide +kernel
theorem dX0_fit_46 : decode cX0_fit 46 = .ok (.aload_n 0, 1) := by decide +kernel
theorem dX0_fit_47 : decode cX0_fit 47 = .ok (.getfield 28, 3) := by decide +kernel
theorem dX0_fit_50 : decode cX0_fit 50 = .ok (.iload_n 2, 1) := by decide +kernel
theorem dX0_fit_51 : decode cX0_fit 51 = .ok (.iaload, 1) := by decide +kernel
theorem dX0_fit_52 : decode cX0_fit 52 = .ok (.isub, 1) := by decide +kernel
theorem dX0_fit_53 : decode cX0_fit 53 = .ok (.istore 4, 2) := by decide +kernel
theorem dX0_fit_55 : decode cX0_fit 55 = .ok (.aload_n 0, 1) := by decide +kernel
theorem dX0_fit_56 : decode cX0_fit 56 = .ok (.getfield 25, 3) := by decide +kernel
theorem dX0_fit_59 : decode cX0_fit 59 = .ok (.iload_n 2, 1) := by decide +kernel
theorem dX0_fit_60 : decode cX0_fit 60 = .ok (.iaload, 1) := by decide +kernel
theorem dX0_fit_61 : decode cX0_fit 61 = .ok (.istore 5, 2) := by decide +kernel
theorem dX0_fit_63 : decode cX0_fit 63 = .ok (.aload_n 0, 1) := by decide +kernel
theorem dX0_fit_64 : decode cX0_fit 64 = .ok (.getfield 25, 3) := by decide +kernel
theorem dX0_fit_67 : decode cX0_fit 67 = .ok (.iload_n 1, 1) := by decide +kernel
theorem dX0_fit_68 : decode cX0_fit 68 = .ok (.iaload, 1) := by decide +kernel
theorem dX0_fit_69 : decode cX0_fit 69 = .ok (.istore 6, 2) := by decide +kernel
theorem dX0_fit_71 : decode cX0_fit 71 = .ok (.iconst 0, 1) := by decide +kernel
theorem dX0_fit_72 : decode cX0_fit 72 = .ok (.istore 7, 2) := by decide +kernel
theorem dX0_fit_74 : decode cX0_fit 74 = .ok (.iload 7, 2) := by decide +kernel
theorem dX0_fit_76 : decode cX0_fit 76 = .ok (.bipush 64, 2) := by decide +kernel
theorem dX0_fit_78 : decode cX0_fit 78 = .ok (.if_icmp .ge 42, 3) := by decide +kernel
theorem dX0_fit_81 : decode cX0_fit 81 = .ok (.aload_n 0, 1) := by decide +kernel
theorem dX0_fit_82 : decode cX0_fit 82 = .ok (.getfield 25, 3) := by decide +kernel
theorem dX0_fit_85 : decode cX0_fit 85 = .ok (.iload 7, 2) := by decide +kernel
theorem dX0_fit_87 : decode cX0_fit 87 = .ok (.iaload, 1) := by decide +kernel
theorem dX0_fit_88 : decode cX0_fit 88 = .ok (.iload 5, 2) := by decide +kernel
theorem dX0_fit_90 : decode cX0_fit 90 = .ok (.if_icmp .ne 24, 3) := by decide +kernel
theorem dX0_fit_93 : decode cX0_fit 93 = .ok (.aload_n 0, 1) := by decide +kernel
theorem dX0_fit_94 : decode cX0_fit 94 = .ok (.getfield 25, 3) := by decide +kernel
theorem dX0_fit_97 : decode cX0_fit 97 = .ok (.iload 7, 2) := by decide +kernel
theorem dX0_fit_99 : decode cX0_fit 99 = .ok (.iload 6, 2) := by decide +kernel
theorem dX0_fit_101 : decode cX0_fit 101 = .ok (.iastore, 1) := by decide +kernel
theorem dX0_fit_102 : decode cX0_fit 102 = .ok (.aload_n 0, 1) := by decide +kernel
theorem dX0_fit_103 : decode cX0_fit 103 = .ok (.getfield 28, 3) := by decide +kernel
theorem dX0_fit_106 : decode cX0_fit 106 = .ok (.iload 7, 2) := by decide +kernel
theorem dX0_fit_108 : decode cX0_fit 108 = .ok (.dup2, 1) := by decide +kernel
theorem dX0_fit_109 : decode cX0_fit 109 = .ok (.iaload, 1) := by decide +kernel
theorem dX0_fit_110 : decode cX0_fit 110 = .ok (.iload 4, 2) := by decide +kernel
theorem dX0_fit_112 : decode cX0_fit 112 = .ok (.iadd, 1) := by decide +kernel
theorem dX0_fit_113 : decode cX0_fit 113 = .ok (.iastore, 1) := by decide +kernel
theorem dX0_fit_114 : decode cX0_fit 114 = .ok (.iinc 7 1, 3) := by decide +kernel
theorem dX0_fit_117 : decode cX0_fit 117 = .ok (.goto (-43), 3) := by decide +kernel
theorem dX0_fit_120 : decode cX0_fit 120 = .ok (.iconst 1, 1) := by decide +kernel
theorem dX0_fit_121 : decode cX0_fit 121 = .ok (.ireturn, 1) := by decide +kernel
theorem dX0_knotOfTime_0 : decode cX0_knotOfTime 0 = .ok (.bipush 24, 2) := by decide +kernel
theorem dX0_knotOfTime_2 : decode cX0_knotOfTime 2 = .ok (.iload_n 0, 1) := by decide +kernel
theorem dX0_knotOfTime_3 : decode cX0_knotOfTime 3 = .ok (.iadd, 1) := by decide +kernel
theorem dX0_knotOfTime_4 : decode cX0_knotOfTime 4 = .ok (.ireturn, 1) := by decide +kernel
theorem dX0_count_0 : decode cX0_count 0 = .ok (.aload_n 0, 1) := by decide +kernel
theorem dX0_count_1 : decode cX0_count 1 = .ok (.getfield 34, 3) := by decide +kernel
theorem dX0_count_4 : decode cX0_count 4 = .ok (.ireturn, 1) := by decide +kernel
theorem dX0_fittingCount_0 : decode cX0_fittingCount 0 = .ok (.aload_n 0, 1) := by decide +kernel
theorem dX0_fittingCount_1 : decode cX0_fittingCount 1 = .ok (.getfield 38, 3) := by decide +kernel
theorem dX0_fittingCount_4 : decode cX0_fittingCount 4 = .ok (.ireturn, 1) := by decide +kernel
theorem dX0_timeOf_0 : decode cX0_timeOf 0 = .ok (.aload_n 0, 1) := by decide +kernel
theorem dX0_timeOf_1 : decode cX0_timeOf 1 = .ok (.getfield 9, 3) := by decide +kernel
theorem dX0_timeOf_4 : decode cX0_timeOf 4 = .ok (.iload_n 1, 1) := by decide +kernel
theorem dX0_timeOf_5 : decode cX0_timeOf 5 = .ok (.iaload, 1) := by decide +kernel
theorem dX0_timeOf_6 : decode cX0_timeOf 6 = .ok (.ireturn, 1) := by decide +kernel
theorem dX0_placeOf_0 : decode cX0_placeOf 0 = .ok (.aload_n 0, 1) := by decide +kernel
theorem dX0_placeOf_1 : decode cX0_placeOf 1 = .ok (.getfield 15, 3) := by decide +kernel
theorem dX0_placeOf_4 : decode cX0_placeOf 4 = .ok (.iload_n 1, 1) := by decide +kernel
theorem dX0_placeOf_5 : decode cX0_placeOf 5 = .ok (.iaload, 1) := by decide +kernel
theorem dX0_placeOf_6 : decode cX0_placeOf 6 = .ok (.ireturn, 1) := by decide +kernel
theorem dX0_valueOf_0 : decode cX0_valueOf 0 = .ok (.aload_n 0, 1) := by decide +kernel
theorem dX0_valueOf_1 : decode cX0_valueOf 1 = .ok (.getfield 18, 3) := by decide +kernel
theorem dX0_valueOf_4 : decode cX0_valueOf 4 = .ok (.iload_n 1, 1) := by decide +kernel
theorem dX0_valueOf_5 : decode cX0_valueOf 5 = .ok (.iaload, 1) := by decide +kernel
theorem dX0_valueOf_6 : decode cX0_valueOf 6 = .ok (.ireturn, 1) := by decide +kernel
theorem dX0_isFitting_0 : decode cX0_isFitting 0 = .ok (.aload_n 0, 1) := by decide +kernel
theorem dX0_isFitting_1 : decode cX0_isFitting 1 = .ok (.getfield 21, 3) := by decide +kernel
theorem dX0_isFitting_4 : decode cX0_isFitting 4 = .ok (.iload_n 1, 1) := by decide +kernel
theorem dX0_isFitting_5 : decode cX0_isFitting 5 = .ok (.baload, 1) := by decide +kernel
theorem dX0_isFitting_6 : decode cX0_isFitting 6 = .ok (.ireturn, 1) := by decide +kernel
theorem dX0_hasAcross_0 : decode cX0_hasAcross 0 = .ok (.aload_n 0, 1) := by decide +kernel
theorem dX0_hasAcross_1 : decode cX0_hasAcross 1 = .ok (.getfield 25, 3) := by decide +kernel
theorem dX0_hasAcross_4 : decode cX0_hasAcross 4 = .ok (.iload_n 1, 1) := by decide +kernel
theorem dX0_hasAcross_5 : decode cX0_hasAcross 5 = .ok (.iaload, 1) := by decide +kernel
theorem dX0_hasAcross_6 : decode cX0_hasAcross 6 = .ok (.aload_n 0, 1) := by decide +kernel
theorem dX0_hasAcross_7 : decode cX0_hasAcross 7 = .ok (.getfield 25, 3) := by decide +kernel
theorem dX0_hasAcross_10 : decode cX0_hasAcross 10 = .ok (.iconst 0, 1) := by decide +kernel
theorem dX0_hasAcross_11 : decode cX0_hasAcross 11 = .ok (.iaload, 1) := by decide +kernel
theorem dX0_hasAcross_12 : decode cX0_hasAcross 12 = .ok (.if_icmp .ne 7, 3) := by decide +kernel
theorem dX0_hasAcross_15 : decode cX0_hasAcross 15 = .ok (.iconst 1, 1) := by decide +kernel
theorem dX0_hasAcross_16 : decode cX0_hasAcross 16 = .ok (.goto 4, 3) := by decide +kernel
theorem dX0_hasAcross_19 : decode cX0_hasAcross 19 = .ok (.iconst 0, 1) := by decide +kernel
theorem dX0_hasAcross_20 : decode cX0_hasAcross 20 = .ok (.ireturn, 1) := by decide +kernel
theorem dX0_acrossOf_0 : decode cX0_acrossOf 0 = .ok (.aload_n 0, 1) := by decide +kernel
theorem dX0_acrossOf_1 : decode cX0_acrossOf 1 = .ok (.getfield 28, 3) := by decide +kernel
theorem dX0_acrossOf_4 : decode cX0_acrossOf 4 = .ok (.iconst 0, 1) := by decide +kernel
theorem dX0_acrossOf_5 : decode cX0_acrossOf 5 = .ok (.iaload, 1) := by decide +kernel
theorem dX0_acrossOf_6 : decode cX0_acrossOf 6 = .ok (.aload_n 0, 1) := by decide +kernel
theorem dX0_acrossOf_7 : decode cX0_acrossOf 7 = .ok (.getfield 28, 3) := by decide +kernel
theorem dX0_acrossOf_10 : decode cX0_acrossOf 10 = .ok (.iload_n 1, 1) := by decide +kernel
theorem dX0_acrossOf_11 : decode cX0_acrossOf 11 = .ok (.iaload, 1) := by decide +kernel
theorem dX0_acrossOf_12 : decode cX0_acrossOf 12 = .ok (.isub, 1) := by decide +kernel
theorem dX0_acrossOf_13 : decode cX0_acrossOf 13 = .ok (.ireturn, 1) := by decide +kernel
set_option maxRecDepth 20000 in
theorem ggX0_timesHangTogether_X0_knotOfTime : GoodIn wsX0_timesHangTogether wsX0_knotOfTime := goodIn_r _ [5] (by decide +kernel) (by decide +kernel)
set_option maxRecDepth 20000 in
theorem gX0_timesHangTogether_X0_knotOfTime : GoodIn wsX0_timesHangTogether (va_wsS RX0 41 yX0_knotOfTime wsX0_knotOfTime) := goodIn_app (goodIn_of _ (by decide +kernel)) ggX0_timesHangTogether_X0_knotOfTime
theorem dX0_timesHangTogether_0 : decode cX0_timesHangTogether 0 = .ok (.aload_n 0, 1) := by decide +kernel
theorem dX0_timesHangTogether_1 : decode cX0_timesHangTogether 1 = .ok (.getfield 25, 3) := by decide +kernel
theorem dX0_timesHangTogether_4 : decode cX0_timesHangTogether 4 = .ok (.iload_n 1, 1) := by decide +kernel
theorem dX0_timesHangTogether_5 : decode cX0_timesHangTogether 5 = .ok (.invokestatic 41, 3) := by decide +kernel
theorem dX0_timesHangTogether_8 : decode cX0_timesHangTogether 8 = .ok (.iaload, 1) := by decide +kernel
theorem dX0_timesHangTogether_9 : decode cX0_timesHangTogether 9 = .ok (.aload_n 0, 1) := by decide +kernel
theorem dX0_timesHangTogether_10 : decode cX0_timesHangTogether 10 = .ok (.getfield 25, 3) := by decide +kernel
theorem dX0_timesHangTogether_13 : decode cX0_timesHangTogether 13 = .ok (.iload_n 2, 1) := by decide +kernel
theorem dX0_timesHangTogether_14 : decode cX0_timesHangTogether 14 = .ok (.invokestatic 41, 3) := by decide +kernel
theorem dX0_timesHangTogether_17 : decode cX0_timesHangTogether 17 = .ok (.iaload, 1) := by decide +kernel
theorem dX0_timesHangTogether_18 : decode cX0_timesHangTogether 18 = .ok (.if_icmp .ne 7, 3) := by decide +kernel
theorem dX0_timesHangTogether_21 : decode cX0_timesHangTogether 21 = .ok (.iconst 1, 1) := by decide +kernel
theorem dX0_timesHangTogether_22 : decode cX0_timesHangTogether 22 = .ok (.goto 4, 3) := by decide +kernel
theorem dX0_timesHangTogether_25 : decode cX0_timesHangTogether 25 = .ok (.iconst 0, 1) := by decide +kernel
theorem dX0_timesHangTogether_26 : decode cX0_timesHangTogether 26 = .ok (.ireturn, 1) := by decide +kernel
set_option maxRecDepth 20000 in
theorem ggX0_moreAlong_X0_knotOfTime : GoodIn wsX0_moreAlong wsX0_knotOfTime := goodIn_r _ [5] (by decide +kernel) (by decide +kernel)
set_option maxRecDepth 20000 in
theorem gX0_moreAlong_X0_knotOfTime : GoodIn wsX0_moreAlong (va_wsS RX0 41 yX0_knotOfTime wsX0_knotOfTime) := goodIn_app (goodIn_of _ (by decide +kernel)) ggX0_moreAlong_X0_knotOfTime
theorem dX0_moreAlong_0 : decode cX0_moreAlong 0 = .ok (.aload_n 0, 1) := by decide +kernel
theorem dX0_moreAlong_1 : decode cX0_moreAlong 1 = .ok (.getfield 28, 3) := by decide +kernel
theorem dX0_moreAlong_4 : decode cX0_moreAlong 4 = .ok (.iload_n 1, 1) := by decide +kernel
theorem dX0_moreAlong_5 : decode cX0_moreAlong 5 = .ok (.invokestatic 41, 3) := by decide +kernel
theorem dX0_moreAlong_8 : decode cX0_moreAlong 8 = .ok (.iaload, 1) := by decide +kernel
theorem dX0_moreAlong_9 : decode cX0_moreAlong 9 = .ok (.aload_n 0, 1) := by decide +kernel
theorem dX0_moreAlong_10 : decode cX0_moreAlong 10 = .ok (.getfield 28, 3) := by decide +kernel
theorem dX0_moreAlong_13 : decode cX0_moreAlong 13 = .ok (.iload_n 2, 1) := by decide +kernel
theorem dX0_moreAlong_14 : decode cX0_moreAlong 14 = .ok (.invokestatic 41, 3) := by decide +kernel
theorem dX0_moreAlong_17 : decode cX0_moreAlong 17 = .ok (.iaload, 1) := by decide +kernel
theorem dX0_moreAlong_18 : decode cX0_moreAlong 18 = .ok (.isub, 1) := by decide +kernel
theorem dX0_moreAlong_19 : decode cX0_moreAlong 19 = .ok (.ireturn, 1) := by decide +kernel
set_option maxRecDepth 20000 in
theorem ggX0_countGroups_X0_isFirstOfGroup : GoodIn wsX0_countGroups wsX0_isFirstOfGroup := goodIn_r _ [5, 6, 7, 8, 9, 10, 11, 12, 13, 14] (by decide +kernel) (by decide +kernel)
set_option maxRecDepth 20000 in
theorem gX0_countGroups_X0_isFirstOfGroup : GoodIn wsX0_countGroups (wsV RX0 49 RX0 yX0_isFirstOfGroup wsX0_isFirstOfGroup) := goodIn_app (goodIn_of _ (by decide +kernel)) ggX0_countGroups_X0_isFirstOfGroup
theorem dX0_countGroups_0 : decode cX0_countGroups 0 = .ok (.iconst 0, 1) := by decide +kernel
theorem dX0_countGroups_1 : decode cX0_countGroups 1 = .ok (.istore_n 2, 1) := by decide +kernel
theorem dX0_countGroups_2 : decode cX0_countGroups 2 = .ok (.iconst 0, 1) := by decide +kernel
theorem dX0_countGroups_3 : decode cX0_countGroups 3 = .ok (.istore_n 3, 1) := by decide +kernel
theorem dX0_countGroups_4 : decode cX0_countGroups 4 = .ok (.iload_n 3, 1) := by decide +kernel
theorem dX0_countGroups_5 : decode cX0_countGroups 5 = .ok (.iload_n 1, 1) := by decide +kernel
theorem dX0_countGroups_6 : decode cX0_countGroups 6 = .ok (.if_icmp .ge 20, 3) := by decide +kernel
theorem dX0_countGroups_9 : decode cX0_countGroups 9 = .ok (.aload_n 0, 1) := by decide +kernel
theorem dX0_countGroups_10 : decode cX0_countGroups 10 = .ok (.iload_n 3, 1) := by decide +kernel
theorem dX0_countGroups_11 : decode cX0_countGroups 11 = .ok (.invokevirtual 49, 3) := by decide +kernel
theorem dX0_countGroups_14 : decode cX0_countGroups 14 = .ok (.ifCond .eq 6, 3) := by decide +kernel
theorem dX0_countGroups_17 : decode cX0_countGroups 17 = .ok (.iinc 2 1, 3) := by decide +kernel
theorem dX0_countGroups_20 : decode cX0_countGroups 20 = .ok (.iinc 3 1, 3) := by decide +kernel
theorem dX0_countGroups_23 : decode cX0_countGroups 23 = .ok (.goto (-19), 3) := by decide +kernel
theorem dX0_countGroups_26 : decode cX0_countGroups 26 = .ok (.iload_n 2, 1) := by decide +kernel
theorem dX0_countGroups_27 : decode cX0_countGroups 27 = .ok (.ireturn, 1) := by decide +kernel
theorem dX0_isFirstOfGroup_0 : decode cX0_isFirstOfGroup 0 = .ok (.iconst 0, 1) := by decide +kernel
theorem dX0_isFirstOfGroup_1 : decode cX0_isFirstOfGroup 1 = .ok (.istore_n 2, 1) := by decide +kernel
theorem dX0_isFirstOfGroup_2 : decode cX0_isFirstOfGroup 2 = .ok (.iload_n 2, 1) := by decide +kernel
theorem dX0_isFirstOfGroup_3 : decode cX0_isFirstOfGroup 3 = .ok (.iload_n 1, 1) := by decide +kernel
theorem dX0_isFirstOfGroup_4 : decode cX0_isFirstOfGroup 4 = .ok (.if_icmp .ge 26, 3) := by decide +kernel
theorem dX0_isFirstOfGroup_7 : decode cX0_isFirstOfGroup 7 = .ok (.aload_n 0, 1) := by decide +kernel
theorem dX0_isFirstOfGroup_8 : decode cX0_isFirstOfGroup 8 = .ok (.getfield 25, 3) := by decide +kernel
theorem dX0_isFirstOfGroup_11 : decode cX0_isFirstOfGroup 11 = .ok (.iload_n 2, 1) := by decide +kernel
theorem dX0_isFirstOfGroup_12 : decode cX0_isFirstOfGroup 12 = .ok (.iaload, 1) := by decide +kernel
theorem dX0_isFirstOfGroup_13 : decode cX0_isFirstOfGroup 13 = .ok (.aload_n 0, 1) := by decide +kernel
theorem dX0_isFirstOfGroup_14 : decode cX0_isFirstOfGroup 14 = .ok (.getfield 25, 3) := by decide +kernel
theorem dX0_isFirstOfGroup_17 : decode cX0_isFirstOfGroup 17 = .ok (.iload_n 1, 1) := by decide +kernel
theorem dX0_isFirstOfGroup_18 : decode cX0_isFirstOfGroup 18 = .ok (.iaload, 1) := by decide +kernel
theorem dX0_isFirstOfGroup_19 : decode cX0_isFirstOfGroup 19 = .ok (.if_icmp .ne 5, 3) := by decide +kernel
theorem dX0_isFirstOfGroup_22 : decode cX0_isFirstOfGroup 22 = .ok (.iconst 0, 1) := by decide +kernel
theorem dX0_isFirstOfGroup_23 : decode cX0_isFirstOfGroup 23 = .ok (.ireturn, 1) := by decide +kernel
theorem dX0_isFirstOfGroup_24 : decode cX0_isFirstOfGroup 24 = .ok (.iinc 2 1, 3) := by decide +kernel
theorem dX0_isFirstOfGroup_27 : decode cX0_isFirstOfGroup 27 = .ok (.goto (-25), 3) := by decide +kernel
theorem dX0_isFirstOfGroup_30 : decode cX0_isFirstOfGroup 30 = .ok (.iconst 1, 1) := by decide +kernel
theorem dX0_isFirstOfGroup_31 : decode cX0_isFirstOfGroup 31 = .ok (.ireturn, 1) := by decide +kernel
end
section
set_option maxRecDepth 20000 in
theorem ggX1_init_J7_fill_53178 : GoodIn wsX1_init wsJ7_fill_53178 := goodIn_r _ [10] (by decide +kernel) (by decide +kernel)
set_option maxRecDepth 20000 in
theorem gX1_init_J7_fill_53178 : GoodIn wsX1_init (va_wsS RX1 18 yJ7_fill_53178 wsJ7_fill_53178) := goodIn_app (goodIn_of _ (by decide +kernel)) ggX1_init_J7_fill_53178
theorem dX1_init_0 : decode cX1_init 0 = .ok (.aload_n 0, 1) := by decide +kernel
theorem dX1_init_1 : decode cX1_init 1 = .ok (.invokespecial 3, 3) := by decide +kernel
theorem dX1_init_4 : decode cX1_init 4 = .ok (.aload_n 0, 1) := by decide +kernel
theorem dX1_init_5 : decode cX1_init 5 = .ok (.bipush 81, 2) := by decide +kernel
theorem dX1_init_7 : decode cX1_init 7 = .ok (.newarray .int, 2) := by decide +kernel
theorem dX1_init_9 : decode cX1_init 9 = .ok (.putfield 9, 3) := by decide +kernel
theorem dX1_init_12 : decode cX1_init 12 = .ok (.aload_n 0, 1) := by decide +kernel
theorem dX1_init_13 : decode cX1_init 13 = .ok (.sipush 4608, 3) := by decide +kernel
theorem dX1_init_16 : decode cX1_init 16 = .ok (.newarray .int, 2) := by decide +kernel
theorem dX1_init_18 : decode cX1_init 18 = .ok (.putfield 15, 3) := by decide +kernel
theorem dX1_init_21 : decode cX1_init 21 = .ok (.aload_n 0, 1) := by decide +kernel
theorem dX1_init_22 : decode cX1_init 22 = .ok (.getfield 9, 3) := by decide +kernel
theorem dX1_init_25 : decode cX1_init 25 = .ok (.bipush 100, 2) := by decide +kernel
theorem dX1_init_27 : decode cX1_init 27 = .ok (.invokestatic 18, 3) := by decide +kernel
theorem dX1_init_30 : decode cX1_init 30 = .ok (.return_, 1) := by decide +kernel
theorem dX1_count_0 : decode cX1_count 0 = .ok (.aload_n 0, 1) := by decide +kernel
theorem dX1_count_1 : decode cX1_count 1 = .ok (.getfield 24, 3) := by decide +kernel
theorem dX1_count_4 : decode cX1_count 4 = .ok (.ireturn, 1) := by decide +kernel
theorem dX1_add_0 : decode cX1_add 0 = .ok (.aload_n 0, 1) := by decide +kernel
theorem dX1_add_1 : decode cX1_add 1 = .ok (.iconst 0, 1) := by decide +kernel
theorem dX1_add_2 : decode cX1_add 2 = .ok (.putfield 28, 3) := by decide +kernel
theorem dX1_add_5 : decode cX1_add 5 = .ok (.aload_n 0, 1) := by decide +kernel
theorem dX1_add_6 : decode cX1_add 6 = .ok (.dup, 1) := by decide +kernel
theorem dX1_add_7 : decode cX1_add 7 = .ok (.getfield 24, 3) := by decide +kernel
theorem dX1_add_10 : decode cX1_add 10 = .ok (.iconst 1, 1) := by decide +kernel
theorem dX1_add_11 : decode cX1_add 11 = .ok (.iadd, 1) := by decide +kernel
theorem dX1_add_12 : decode cX1_add 12 = .ok (.putfield 24, 3) := by decide +kernel
theorem dX1_add_15 : decode cX1_add 15 = .ok (.aload_n 0, 1) := by decide +kernel
theorem dX1_add_16 : decode cX1_add 16 = .ok (.getfield 24, 3) := by decide +kernel
theorem dX1_add_19 : decode cX1_add 19 = .ok (.iconst 1, 1) := by decide +kernel
theorem dX1_add_20 : decode cX1_add 20 = .ok (.isub, 1) := by decide +kernel
theorem dX1_add_21 : decode cX1_add 21 = .ok (.ireturn, 1) := by decide +kernel
set_option maxRecDepth 20000 in
theorem ggX1_putCost_X1_costOf : GoodIn wsX1_putCost wsX1_costOf := goodIn_r _ [7, 1, 8, 9, 10, 11] (by decide +kernel) (by decide +kernel)
set_option maxRecDepth 20000 in
theorem gX1_putCost_X1_costOf : GoodIn wsX1_putCost (wsV RX1 32 RX1 yX1_costOf wsX1_costOf) := goodIn_app (goodIn_of _ (by decide +kernel)) ggX1_putCost_X1_costOf
theorem dX1_putCost_0 : decode cX1_putCost 0 = .ok (.aload_n 0, 1) := by decide +kernel
theorem dX1_putCost_1 : decode cX1_putCost 1 = .ok (.iload_n 1, 1) := by decide +kernel
theorem dX1_putCost_2 : decode cX1_putCost 2 = .ok (.iload_n 2, 1) := by decide +kernel
theorem dX1_putCost_3 : decode cX1_putCost 3 = .ok (.invokevirtual 32, 3) := by decide +kernel
theorem dX1_putCost_6 : decode cX1_putCost 6 = .ok (.istore 4, 2) := by decide +kernel
theorem dX1_putCost_8 : decode cX1_putCost 8 = .ok (.aload_n 0, 1) := by decide +kernel
theorem dX1_putCost_9 : decode cX1_putCost 9 = .ok (.getfield 9, 3) := by decide +kernel
theorem dX1_putCost_12 : decode cX1_putCost 12 = .ok (.iload_n 1, 1) := by decide +kernel
theorem dX1_putCost_13 : decode cX1_putCost 13 = .ok (.bipush 9, 2) := by decide +kernel
theorem dX1_putCost_15 : decode cX1_putCost 15 = .ok (.imul, 1) := by decide +kernel
theorem dX1_putCost_16 : decode cX1_putCost 16 = .ok (.iload_n 2, 1) := by decide +kernel
theorem dX1_putCost_17 : decode cX1_putCost 17 = .ok (.iadd, 1) := by decide +kernel
theorem dX1_putCost_18 : decode cX1_putCost 18 = .ok (.iload_n 3, 1) := by decide +kernel
theorem dX1_putCost_19 : decode cX1_putCost 19 = .ok (.iastore, 1) := by decide +kernel
theorem dX1_putCost_20 : decode cX1_putCost 20 = .ok (.aload_n 0, 1) := by decide +kernel
theorem dX1_putCost_21 : decode cX1_putCost 21 = .ok (.iconst 0, 1) := by decide +kernel
theorem dX1_putCost_22 : decode cX1_putCost 22 = .ok (.putfield 28, 3) := by decide +kernel
theorem dX1_putCost_25 : decode cX1_putCost 25 = .ok (.iload 4, 2) := by decide +kernel
theorem dX1_putCost_27 : decode cX1_putCost 27 = .ok (.ireturn, 1) := by decide +kernel
theorem dX1_costOf_0 : decode cX1_costOf 0 = .ok (.aload_n 0, 1) := by decide +kernel
theorem dX1_costOf_1 : decode cX1_costOf 1 = .ok (.getfield 9, 3) := by decide +kernel
theorem dX1_costOf_4 : decode cX1_costOf 4 = .ok (.iload_n 1, 1) := by decide +kernel
theorem dX1_costOf_5 : decode cX1_costOf 5 = .ok (.bipush 9, 2) := by decide +kernel
theorem dX1_costOf_7 : decode cX1_costOf 7 = .ok (.imul, 1) := by decide +kernel
theorem dX1_costOf_8 : decode cX1_costOf 8 = .ok (.iload_n 2, 1) := by decide +kernel
theorem dX1_costOf_9 : decode cX1_costOf 9 = .ok (.iadd, 1) := by decide +kernel
theorem dX1_costOf_10 : decode cX1_costOf 10 = .ok (.iaload, 1) := by decide +kernel
theorem dX1_costOf_11 : decode cX1_costOf 11 = .ok (.ireturn, 1) := by decide +kernel
set_option maxRecDepth 20000 in
theorem ggX1_leastCosts_X1_weighAll : GoodIn wsX1_leastCosts wsX1_weighAll := goodIn_r _ [5, 6, 7, 8, 9, 10, 4, 11, 12, 13, 14, 15, 16, 17, 18, 19, 20, 21, 22, 23, 24, 25, 26, 27, 28, 29, 30, 31, 32, 37, 38, 39, 40] (by decide +kernel) (by decide +kernel)
set_option maxRecDepth 20000 in
theorem gX1_leastCosts_X1_weighAll : GoodIn wsX1_leastCosts (wsV RX1 36 RX1 yX1_weighAll wsX1_weighAll) := goodIn_app (goodIn_of _ (by decide +kernel)) ggX1_leastCosts_X1_weighAll
set_option maxRecDepth 20000 in
theorem ggX1_leastCosts_X1_allBut : GoodIn wsX1_leastCosts wsX1_allBut := goodIn_r _ [36, 7, 26, 27, 4, 28, 37, 38, 39, 40] (by decide +kernel) (by decide +kernel)
set_option maxRecDepth 20000 in
theorem gX1_leastCosts_X1_allBut : GoodIn wsX1_leastCosts (wsV RX1 39 RX1 yX1_allBut wsX1_allBut) := goodIn_app (goodIn_of _ (by decide +kernel)) ggX1_leastCosts_X1_allBut
set_option maxRecDepth 20000 in
theorem ggX1_leastCosts_X1_restOf : GoodIn wsX1_leastCosts wsX1_restOf := goodIn_r _ [32, 8, 37, 38, 39, 40] (by decide +kernel) (by decide +kernel)
set_option maxRecDepth 20000 in
theorem gX1_leastCosts_X1_restOf : GoodIn wsX1_leastCosts (wsV RX1 43 RX1 yX1_restOf wsX1_restOf) := goodIn_app (goodIn_of _ (by decide +kernel)) ggX1_leastCosts_X1_restOf
theorem dX1_leastCosts_0 : decode cX1_leastCosts 0 = .ok (.aload_n 0, 1) := by decide +kernel
theorem dX1_leastCosts_1 : decode cX1_leastCosts 1 = .ok (.invokevirtual 36, 3) := by decide +kernel
theorem dX1_leastCosts_4 : decode cX1_leastCosts 4 = .ok (.aload_n 0, 1) := by decide +kernel
theorem dX1_leastCosts_5 : decode cX1_leastCosts 5 = .ok (.aload_n 0, 1) := by decide +kernel
theorem dX1_leastCosts_6 : decode cX1_leastCosts 6 = .ok (.iload_n 1, 1) := by decide +kernel
theorem dX1_leastCosts_7 : decode cX1_leastCosts 7 = .ok (.invokevirtual 39, 3) := by decide +kernel
theorem dX1_leastCosts_10 : decode cX1_leastCosts 10 = .ok (.iload_n 1, 1) := by decide +kernel
theorem dX1_leastCosts_11 : decode cX1_leastCosts 11 = .ok (.invokevirtual 43, 3) := by decide +kernel
theorem dX1_leastCosts_14 : decode cX1_leastCosts 14 = .ok (.ireturn, 1) := by decide +kernel
set_option maxRecDepth 20000 in
theorem ggX1_stepOf_X1_weighAll : GoodIn wsX1_stepOf wsX1_weighAll := goodIn_r _ [5, 6, 7, 8, 9, 10, 4, 11, 12, 13, 14, 15, 16, 17, 18, 19, 20, 21, 22, 23, 24, 25, 26, 27, 28, 29, 30, 31, 32, 37, 38, 39, 40] (by decide +kernel) (by decide +kernel)
set_option maxRecDepth 20000 in
theorem gX1_stepOf_X1_weighAll : GoodIn wsX1_stepOf (wsV RX1 36 RX1 yX1_weighAll wsX1_weighAll) := goodIn_app (goodIn_of _ (by decide +kernel)) ggX1_stepOf_X1_weighAll
set_option maxRecDepth 20000 in
theorem ggX1_stepOf_X1_allBut : GoodIn wsX1_stepOf wsX1_allBut := goodIn_r _ [36, 7, 26, 27, 4, 28, 37, 38, 39, 40] (by decide +kernel) (by decide +kernel)
set_option maxRecDepth 20000 in
theorem gX1_stepOf_X1_allBut : GoodIn wsX1_stepOf (wsV RX1 39 RX1 yX1_allBut wsX1_allBut) := goodIn_app (goodIn_of _ (by decide +kernel)) ggX1_stepOf_X1_allBut
set_option maxRecDepth 20000 in
theorem ggX1_stepOf_X1_lesserStep : GoodIn wsX1_stepOf wsX1_lesserStep := goodIn_r _ [15, 16, 7, 9, 10, 4, 11, 17, 18, 19, 20, 21, 22, 23, 24, 25, 26, 27, 28, 29, 30, 31, 32, 8, 37, 38, 39, 40] (by decide +kernel) (by decide +kernel)
set_option maxRecDepth 20000 in
theorem gX1_stepOf_X1_lesserStep : GoodIn wsX1_stepOf (wsV RX1 46 RX1 yX1_lesserStep wsX1_lesserStep) := goodIn_app (goodIn_of _ (by decide +kernel)) ggX1_stepOf_X1_lesserStep
set_option maxRecDepth 20000 in
theorem ggX1_stepOf_X1_without : GoodIn wsX1_stepOf wsX1_without := goodIn_r _ [28] (by decide +kernel) (by decide +kernel)
set_option maxRecDepth 20000 in
theorem gX1_stepOf_X1_without : GoodIn wsX1_stepOf (va_wsS RX1 49 yX1_without wsX1_without) := goodIn_app (goodIn_of _ (by decide +kernel)) ggX1_stepOf_X1_without
theorem dX1_stepOf_0 : decode cX1_stepOf 0 = .ok (.aload_n 0, 1) := by decide +kernel
theorem dX1_stepOf_1 : decode cX1_stepOf 1 = .ok (.invokevirtual 36, 3) := by decide +kernel
theorem dX1_stepOf_4 : decode cX1_stepOf 4 = .ok (.iload_n 1, 1) := by decide +kernel
theorem dX1_stepOf_5 : decode cX1_stepOf 5 = .ok (.istore_n 3, 1) := by decide +kernel
theorem dX1_stepOf_6 : decode cX1_stepOf 6 = .ok (.aload_n 0, 1) := by decide +kernel
theorem dX1_stepOf_7 : decode cX1_stepOf 7 = .ok (.iload_n 1, 1) := by decide +kernel
theorem dX1_stepOf_8 : decode cX1_stepOf 8 = .ok (.invokevirtual 39, 3) := by decide +kernel
theorem dX1_stepOf_11 : decode cX1_stepOf 11 = .ok (.istore 4, 2) := by decide +kernel
theorem dX1_stepOf_13 : decode cX1_stepOf 13 = .ok (.iconst 0, 1) := by decide +kernel
theorem dX1_stepOf_14 : decode cX1_stepOf 14 = .ok (.istore 5, 2) := by decide +kernel
theorem dX1_stepOf_16 : decode cX1_stepOf 16 = .ok (.iload 5, 2) := by decide +kernel
theorem dX1_stepOf_18 : decode cX1_stepOf 18 = .ok (.iload_n 2, 1) := by decide +kernel
theorem dX1_stepOf_19 : decode cX1_stepOf 19 = .ok (.if_icmp .ge 25, 3) := by decide +kernel
theorem dX1_stepOf_22 : decode cX1_stepOf 22 = .ok (.aload_n 0, 1) := by decide +kernel
theorem dX1_stepOf_23 : decode cX1_stepOf 23 = .ok (.iload 4, 2) := by decide +kernel
theorem dX1_stepOf_25 : decode cX1_stepOf 25 = .ok (.iload_n 3, 1) := by decide +kernel
theorem dX1_stepOf_26 : decode cX1_stepOf 26 = .ok (.invokevirtual 46, 3) := by decide +kernel
theorem dX1_stepOf_29 : decode cX1_stepOf 29 = .ok (.istore_n 3, 1) := by decide +kernel
theorem dX1_stepOf_30 : decode cX1_stepOf 30 = .ok (.iload 4, 2) := by decide +kernel
theorem dX1_stepOf_32 : decode cX1_stepOf 32 = .ok (.iload_n 3, 1) := by decide +kernel
theorem dX1_stepOf_33 : decode cX1_stepOf 33 = .ok (.invokestatic 49, 3) := by decide +kernel
theorem dX1_stepOf_36 : decode cX1_stepOf 36 = .ok (.istore 4, 2) := by decide +kernel
theorem dX1_stepOf_38 : decode cX1_stepOf 38 = .ok (.iinc 5 1, 3) := by decide +kernel
theorem dX1_stepOf_41 : decode cX1_stepOf 41 = .ok (.goto (-25), 3) := by decide +kernel
theorem dX1_stepOf_44 : decode cX1_stepOf 44 = .ok (.iload_n 3, 1) := by decide +kernel
theorem dX1_stepOf_45 : decode cX1_stepOf 45 = .ok (.ireturn, 1) := by decide +kernel
set_option maxRecDepth 20000 in
theorem ggX1_allBut_X1_without : GoodIn wsX1_allBut wsX1_without := goodIn_r _ [5] (by decide +kernel) (by decide +kernel)
set_option maxRecDepth 20000 in
theorem gX1_allBut_X1_without : GoodIn wsX1_allBut (va_wsS RX1 49 yX1_without wsX1_without) := goodIn_app (goodIn_of _ (by decide +kernel)) ggX1_allBut_X1_without
theorem dX1_allBut_0 : decode cX1_allBut 0 = .ok (.iconst 1, 1) := by decide +kernel
theorem dX1_allBut_1 : decode cX1_allBut 1 = .ok (.aload_n 0, 1) := by decide +kernel
theorem dX1_allBut_2 : decode cX1_allBut 2 = .ok (.getfield 24, 3) := by decide +kernel
theorem dX1_allBut_5 : decode cX1_allBut 5 = .ok (.ishl, 1) := by decide +kernel
theorem dX1_allBut_6 : decode cX1_allBut 6 = .ok (.iconst 1, 1) := by decide +kernel
theorem dX1_allBut_7 : decode cX1_allBut 7 = .ok (.isub, 1) := by decide +kernel
theorem dX1_allBut_8 : decode cX1_allBut 8 = .ok (.iload_n 1, 1) := by decide +kernel
theorem dX1_allBut_9 : decode cX1_allBut 9 = .ok (.invokestatic 49, 3) := by decide +kernel
theorem dX1_allBut_12 : decode cX1_allBut 12 = .ok (.ireturn, 1) := by decide +kernel
theorem dX1_without_0 : decode cX1_without 0 = .ok (.iload_n 0, 1) := by decide +kernel
theorem dX1_without_1 : decode cX1_without 1 = .ok (.iconst 1, 1) := by decide +kernel
theorem dX1_without_2 : decode cX1_without 2 = .ok (.iload_n 1, 1) := by decide +kernel
theorem dX1_without_3 : decode cX1_without 3 = .ok (.ishl, 1) := by decide +kernel
theorem dX1_without_4 : decode cX1_without 4 = .ok (.iconst (-1), 1) := by decide +kernel
theorem dX1_without_5 : decode cX1_without 5 = .ok (.ixor, 1) := by decide +kernel
theorem dX1_without_6 : decode cX1_without 6 = .ok (.iand, 1) := by decide +kernel
theorem dX1_without_7 : decode cX1_without 7 = .ok (.ireturn, 1) := by decide +kernel
theorem dX1_has_0 : decode cX1_has 0 = .ok (.iload_n 0, 1) := by decide +kernel
theorem dX1_has_1 : decode cX1_has 1 = .ok (.iload_n 1, 1) := by decide +kernel
theorem dX1_has_2 : decode cX1_has 2 = .ok (.ishr, 1) := by decide +kernel
theorem dX1_has_3 : decode cX1_has 3 = .ok (.iconst 1, 1) := by decide +kernel
theorem dX1_has_4 : decode cX1_has 4 = .ok (.iand, 1) := by decide +kernel
theorem dX1_has_5 : decode cX1_has 5 = .ok (.iconst 1, 1) := by decide +kernel
theorem dX1_has_6 : decode cX1_has 6 = .ok (.if_icmp .ne 7, 3) := by decide +kernel
theorem dX1_has_9 : decode cX1_has 9 = .ok (.iconst 1, 1) := by decide +kernel
theorem dX1_has_10 : decode cX1_has 10 = .ok (.goto 4, 3) := by decide +kernel
theorem dX1_has_13 : decode cX1_has 13 = .ok (.iconst 0, 1) := by decide +kernel
theorem dX1_has_14 : decode cX1_has 14 = .ok (.ireturn, 1) := by decide +kernel
theorem dX1_restOf_0 : decode cX1_restOf 0 = .ok (.aload_n 0, 1) := by decide +kernel
theorem dX1_restOf_1 : decode cX1_restOf 1 = .ok (.getfield 15, 3) := by decide +kernel
theorem dX1_restOf_4 : decode cX1_restOf 4 = .ok (.iload_n 1, 1) := by decide +kernel
theorem dX1_restOf_5 : decode cX1_restOf 5 = .ok (.bipush 9, 2) := by decide +kernel
theorem dX1_restOf_7 : decode cX1_restOf 7 = .ok (.imul, 1) := by decide +kernel
theorem dX1_restOf_8 : decode cX1_restOf 8 = .ok (.iload_n 2, 1) := by decide +kernel
theorem dX1_restOf_9 : decode cX1_restOf 9 = .ok (.iadd, 1) := by decide +kernel
theorem dX1_restOf_10 : decode cX1_restOf 10 = .ok (.iaload, 1) := by decide +kernel
theorem dX1_restOf_11 : decode cX1_restOf 11 = .ok (.ireturn, 1) := by decide +kernel
set_option maxRecDepth 20000 in
theorem ggX1_weighAll_X1_has : GoodIn wsX1_weighAll wsX1_has := goodIn_r _ [7] (by decide +kernel) (by decide +kernel)
set_option maxRecDepth 20000 in
theorem gX1_weighAll_X1_has : GoodIn wsX1_weighAll (va_wsS RX1 52 yX1_has wsX1_has) := goodIn_app (goodIn_of _ (by decide +kernel)) ggX1_weighAll_X1_has
set_option maxRecDepth 20000 in
theorem ggX1_weighAll_X1_lesserStep : GoodIn wsX1_weighAll wsX1_lesserStep := goodIn_r _ [11, 12, 2, 4, 5, 6, 7, 13, 14, 15, 16, 17, 18, 19, 20, 21, 22, 23, 24, 25, 26, 27, 28, 3, 29, 30, 31, 32] (by decide +kernel) (by decide +kernel)
set_option maxRecDepth 20000 in
theorem gX1_weighAll_X1_lesserStep : GoodIn wsX1_weighAll (wsV RX1 46 RX1 yX1_lesserStep wsX1_lesserStep) := goodIn_app (goodIn_of _ (by decide +kernel)) ggX1_weighAll_X1_lesserStep
set_option maxRecDepth 20000 in
theorem ggX1_weighAll_X1_throughStep : GoodIn wsX1_weighAll wsX1_throughStep := goodIn_r _ [16, 17, 18, 19, 6, 20, 21, 22, 23, 24, 25, 26, 27, 28, 3, 29, 30, 31, 32] (by decide +kernel) (by decide +kernel)
set_option maxRecDepth 20000 in
theorem gX1_weighAll_X1_throughStep : GoodIn wsX1_weighAll (wsV RX1 56 RX1 yX1_throughStep wsX1_throughStep) := goodIn_app (goodIn_of _ (by decide +kernel)) ggX1_weighAll_X1_throughStep
theorem dX1_weighAll_0 : decode cX1_weighAll 0 = .ok (.aload_n 0, 1) := by decide +kernel
theorem dX1_weighAll_1 : decode cX1_weighAll 1 = .ok (.getfield 28, 3) := by decide +kernel
theorem dX1_weighAll_4 : decode cX1_weighAll 4 = .ok (.ifCond .eq 4, 3) := by decide +kernel
theorem dX1_weighAll_7 : decode cX1_weighAll 7 = .ok (.return_, 1) := by decide +kernel
theorem dX1_weighAll_8 : decode cX1_weighAll 8 = .ok (.iconst 0, 1) := by decide +kernel
theorem dX1_weighAll_9 : decode cX1_weighAll 9 = .ok (.istore_n 1, 1) := by decide +kernel
theorem dX1_weighAll_10 : decode cX1_weighAll 10 = .ok (.iload_n 1, 1) := by decide +kernel
theorem dX1_weighAll_11 : decode cX1_weighAll 11 = .ok (.iconst 1, 1) := by decide +kernel
theorem dX1_weighAll_12 : decode cX1_weighAll 12 = .ok (.aload_n 0, 1) := by decide +kernel
theorem dX1_weighAll_13 : decode cX1_weighAll 13 = .ok (.getfield 24, 3) := by decide +kernel
theorem dX1_weighAll_16 : decode cX1_weighAll 16 = .ok (.ishl, 1) := by decide +kernel
theorem dX1_weighAll_17 : decode cX1_weighAll 17 = .ok (.if_icmp .ge 64, 3) := by decide +kernel
theorem dX1_weighAll_20 : decode cX1_weighAll 20 = .ok (.iconst 0, 1) := by decide +kernel
theorem dX1_weighAll_21 : decode cX1_weighAll 21 = .ok (.istore_n 2, 1) := by decide +kernel
theorem dX1_weighAll_22 : decode cX1_weighAll 22 = .ok (.iload_n 2, 1) := by decide +kernel
theorem dX1_weighAll_23 : decode cX1_weighAll 23 = .ok (.aload_n 0, 1) := by decide +kernel
theorem dX1_weighAll_24 : decode cX1_weighAll 24 = .ok (.getfield 24, 3) := by decide +kernel
theorem dX1_weighAll_27 : decode cX1_weighAll 27 = .ok (.if_icmp .ge 48, 3) := by decide +kernel
theorem dX1_weighAll_30 : decode cX1_weighAll 30 = .ok (.iload_n 1, 1) := by decide +kernel
theorem dX1_weighAll_31 : decode cX1_weighAll 31 = .ok (.iload_n 2, 1) := by decide +kernel
theorem dX1_weighAll_32 : decode cX1_weighAll 32 = .ok (.invokestatic 52, 3) := by decide +kernel
theorem dX1_weighAll_35 : decode cX1_weighAll 35 = .ok (.ifCond .ne 34, 3) := by decide +kernel
theorem dX1_weighAll_38 : decode cX1_weighAll 38 = .ok (.aload_n 0, 1) := by decide +kernel
theorem dX1_weighAll_39 : decode cX1_weighAll 39 = .ok (.getfield 15, 3) := by decide +kernel
theorem dX1_weighAll_42 : decode cX1_weighAll 42 = .ok (.iload_n 1, 1) := by decide +kernel
theorem dX1_weighAll_43 : decode cX1_weighAll 43 = .ok (.bipush 9, 2) := by decide +kernel
theorem dX1_weighAll_45 : decode cX1_weighAll 45 = .ok (.imul, 1) := by decide +kernel
theorem dX1_weighAll_46 : decode cX1_weighAll 46 = .ok (.iload_n 2, 1) := by decide +kernel
theorem dX1_weighAll_47 : decode cX1_weighAll 47 = .ok (.iadd, 1) := by decide +kernel
theorem dX1_weighAll_48 : decode cX1_weighAll 48 = .ok (.iload_n 1, 1) := by decide +kernel
theorem dX1_weighAll_49 : decode cX1_weighAll 49 = .ok (.ifCond .ne 7, 3) := by decide +kernel
theorem dX1_weighAll_52 : decode cX1_weighAll 52 = .ok (.iconst 0, 1) := by decide +kernel
theorem dX1_weighAll_53 : decode cX1_weighAll 53 = .ok (.goto 15, 3) := by decide +kernel
theorem dX1_weighAll_56 : decode cX1_weighAll 56 = .ok (.aload_n 0, 1) := by decide +kernel
theorem dX1_weighAll_57 : decode cX1_weighAll 57 = .ok (.iload_n 1, 1) := by decide +kernel
theorem dX1_weighAll_58 : decode cX1_weighAll 58 = .ok (.iload_n 2, 1) := by decide +kernel
theorem dX1_weighAll_59 : decode cX1_weighAll 59 = .ok (.aload_n 0, 1) := by decide +kernel
theorem dX1_weighAll_60 : decode cX1_weighAll 60 = .ok (.iload_n 1, 1) := by decide +kernel
theorem dX1_weighAll_61 : decode cX1_weighAll 61 = .ok (.iload_n 2, 1) := by decide +kernel
theorem dX1_weighAll_62 : decode cX1_weighAll 62 = .ok (.invokevirtual 46, 3) := by decide +kernel
theorem dX1_weighAll_65 : decode cX1_weighAll 65 = .ok (.invokevirtual 56, 3) := by decide +kernel
theorem dX1_weighAll_68 : decode cX1_weighAll 68 = .ok (.iastore, 1) := by decide +kernel
theorem dX1_weighAll_69 : decode cX1_weighAll 69 = .ok (.iinc 2 1, 3) := by decide +kernel
theorem dX1_weighAll_72 : decode cX1_weighAll 72 = .ok (.goto (-50), 3) := by decide +kernel
theorem dX1_weighAll_75 : decode cX1_weighAll 75 = .ok (.iinc 1 1, 3) := by decide +kernel
theorem dX1_weighAll_78 : decode cX1_weighAll 78 = .ok (.goto (-68), 3) := by decide +kernel
theorem dX1_weighAll_81 : decode cX1_weighAll 81 = .ok (.aload_n 0, 1) := by decide +kernel
theorem dX1_weighAll_82 : decode cX1_weighAll 82 = .ok (.iconst 1, 1) := by decide +kernel
theorem dX1_weighAll_83 : decode cX1_weighAll 83 = .ok (.putfield 28, 3) := by decide +kernel
theorem dX1_weighAll_86 : decode cX1_weighAll 86 = .ok (.return_, 1) := by decide +kernel
set_option maxRecDepth 20000 in
theorem ggX1_throughStep_X1_costOf : GoodIn wsX1_throughStep wsX1_costOf := goodIn_r _ [5, 6, 15, 16, 17, 18] (by decide +kernel) (by decide +kernel)
set_option maxRecDepth 20000 in
theorem gX1_throughStep_X1_costOf : GoodIn wsX1_throughStep (wsV RX1 32 RX1 yX1_costOf wsX1_costOf) := goodIn_app (goodIn_of _ (by decide +kernel)) ggX1_throughStep_X1_costOf
set_option maxRecDepth 20000 in
theorem ggX1_throughStep_X1_without : GoodIn wsX1_throughStep wsX1_without := goodIn_r _ [9] (by decide +kernel) (by decide +kernel)
set_option maxRecDepth 20000 in
theorem gX1_throughStep_X1_without : GoodIn wsX1_throughStep (va_wsS RX1 49 yX1_without wsX1_without) := goodIn_app (goodIn_of _ (by decide +kernel)) ggX1_throughStep_X1_without
set_option maxRecDepth 20000 in
theorem ggX1_throughStep_X1_restOf : GoodIn wsX1_throughStep wsX1_restOf := goodIn_r _ [13, 14, 15, 16, 17, 18] (by decide +kernel) (by decide +kernel)
set_option maxRecDepth 20000 in
theorem gX1_throughStep_X1_restOf : GoodIn wsX1_throughStep (wsV RX1 43 RX1 yX1_restOf wsX1_restOf) := goodIn_app (goodIn_of _ (by decide +kernel)) ggX1_throughStep_X1_restOf
theorem dX1_throughStep_0 : decode cX1_throughStep 0 = .ok (.aload_n 0, 1) := by decide +kernel
theorem dX1_throughStep_1 : decode cX1_throughStep 1 = .ok (.iload_n 2, 1) := by decide +kernel
theorem dX1_throughStep_2 : decode cX1_throughStep 2 = .ok (.iload_n 3, 1) := by decide +kernel
theorem dX1_throughStep_3 : decode cX1_throughStep 3 = .ok (.invokevirtual 32, 3) := by decide +kernel
theorem dX1_throughStep_6 : decode cX1_throughStep 6 = .ok (.aload_n 0, 1) := by decide +kernel
theorem dX1_throughStep_7 : decode cX1_throughStep 7 = .ok (.iload_n 1, 1) := by decide +kernel
theorem dX1_throughStep_8 : decode cX1_throughStep 8 = .ok (.iload_n 3, 1) := by decide +kernel
theorem dX1_throughStep_9 : decode cX1_throughStep 9 = .ok (.invokestatic 49, 3) := by decide +kernel
theorem dX1_throughStep_12 : decode cX1_throughStep 12 = .ok (.iload_n 3, 1) := by decide +kernel
theorem dX1_throughStep_13 : decode cX1_throughStep 13 = .ok (.invokevirtual 43, 3) := by decide +kernel
theorem dX1_throughStep_16 : decode cX1_throughStep 16 = .ok (.iadd, 1) := by decide +kernel
theorem dX1_throughStep_17 : decode cX1_throughStep 17 = .ok (.ireturn, 1) := by decide +kernel
set_option maxRecDepth 20000 in
theorem ggX1_lesserStep_X1_has : GoodIn wsX1_lesserStep wsX1_has := goodIn_r _ [6] (by decide +kernel) (by decide +kernel)
set_option maxRecDepth 20000 in
theorem gX1_lesserStep_X1_has : GoodIn wsX1_lesserStep (va_wsS RX1 52 yX1_has wsX1_has) := goodIn_app (goodIn_of _ (by decide +kernel)) ggX1_lesserStep_X1_has
set_option maxRecDepth 20000 in
theorem ggX1_lesserStep_X1_throughStep : GoodIn wsX1_lesserStep wsX1_throughStep := goodIn_r _ [10, 11, 12, 13, 5, 14, 15, 16, 17, 18, 19, 20, 21, 22, 23, 24, 25, 26, 27] (by decide +kernel) (by decide +kernel)
set_option maxRecDepth 20000 in
theorem gX1_lesserStep_X1_throughStep : GoodIn wsX1_lesserStep (wsV RX1 56 RX1 yX1_throughStep wsX1_throughStep) := goodIn_app (goodIn_of _ (by decide +kernel)) ggX1_lesserStep_X1_throughStep
theorem dX1_lesserStep_0 : decode cX1_lesserStep 0 = .ok (.ldc 60, 2) := by decide +kernel
theorem dX1_lesserStep_2 : decode cX1_lesserStep 2 = .ok (.istore_n 3, 1) := by decide +kernel
theorem dX1_lesserStep_3 : decode cX1_lesserStep 3 = .ok (.iload_n 2, 1) := by decide +kernel
theorem dX1_lesserStep_4 : decode cX1_lesserStep 4 = .ok (.istore 4, 2) := by decide +kernel
theorem dX1_lesserStep_6 : decode cX1_lesserStep 6 = .ok (.iconst 0, 1) := by decide +kernel
theorem dX1_lesserStep_7 : decode cX1_lesserStep 7 = .ok (.istore 5, 2) := by decide +kernel
theorem dX1_lesserStep_9 : decode cX1_lesserStep 9 = .ok (.iload 5, 2) := by decide +kernel
theorem dX1_lesserStep_11 : decode cX1_lesserStep 11 = .ok (.aload_n 0, 1) := by decide +kernel
theorem dX1_lesserStep_12 : decode cX1_lesserStep 12 = .ok (.getfield 24, 3) := by decide +kernel
theorem dX1_lesserStep_15 : decode cX1_lesserStep 15 = .ok (.if_icmp .ge 41, 3) := by decide +kernel
theorem dX1_lesserStep_18 : decode cX1_lesserStep 18 = .ok (.iload_n 1, 1) := by decide +kernel
theorem dX1_lesserStep_19 : decode cX1_lesserStep 19 = .ok (.iload 5, 2) := by decide +kernel
theorem dX1_lesserStep_21 : decode cX1_lesserStep 21 = .ok (.invokestatic 52, 3) := by decide +kernel
theorem dX1_lesserStep_24 : decode cX1_lesserStep 24 = .ok (.ifCond .eq 26, 3) := by decide +kernel
theorem dX1_lesserStep_27 : decode cX1_lesserStep 27 = .ok (.aload_n 0, 1) := by decide +kernel
theorem dX1_lesserStep_28 : decode cX1_lesserStep 28 = .ok (.iload_n 1, 1) := by decide +kernel
theorem dX1_lesserStep_29 : decode cX1_lesserStep 29 = .ok (.iload_n 2, 1) := by decide +kernel
theorem dX1_lesserStep_30 : decode cX1_lesserStep 30 = .ok (.iload 5, 2) := by decide +kernel
theorem dX1_lesserStep_32 : decode cX1_lesserStep 32 = .ok (.invokevirtual 56, 3) := by decide +kernel
theorem dX1_lesserStep_35 : decode cX1_lesserStep 35 = .ok (.istore 6, 2) := by decide +kernel
theorem dX1_lesserStep_37 : decode cX1_lesserStep 37 = .ok (.iload 6, 2) := by decide +kernel
theorem dX1_lesserStep_39 : decode cX1_lesserStep 39 = .ok (.iload_n 3, 1) := by decide +kernel
theorem dX1_lesserStep_40 : decode cX1_lesserStep 40 = .ok (.if_icmp .ge 10, 3) := by decide +kernel
theorem dX1_lesserStep_43 : decode cX1_lesserStep 43 = .ok (.iload 6, 2) := by decide +kernel
theorem dX1_lesserStep_45 : decode cX1_lesserStep 45 = .ok (.istore_n 3, 1) := by decide +kernel
theorem dX1_lesserStep_46 : decode cX1_lesserStep 46 = .ok (.iload 5, 2) := by decide +kernel
theorem dX1_lesserStep_48 : decode cX1_lesserStep 48 = .ok (.istore 4, 2) := by decide +kernel
theorem dX1_lesserStep_50 : decode cX1_lesserStep 50 = .ok (.iinc 5 1, 3) := by decide +kernel
theorem dX1_lesserStep_53 : decode cX1_lesserStep 53 = .ok (.goto (-44), 3) := by decide +kernel
theorem dX1_lesserStep_56 : decode cX1_lesserStep 56 = .ok (.iload 4, 2) := by decide +kernel
theorem dX1_lesserStep_58 : decode cX1_lesserStep 58 = .ok (.ireturn, 1) := by decide +kernel
end
section
theorem dX2_init_0 : decode cX2_init 0 = .ok (.aload_n 0, 1) := by decide +kernel
theorem dX2_init_1 : decode cX2_init 1 = .ok (.invokespecial 3, 3) := by decide +kernel
theorem dX2_init_4 : decode cX2_init 4 = .ok (.aload_n 0, 1) := by decide +kernel
theorem dX2_init_5 : decode cX2_init 5 = .ok (.bipush 24, 2) := by decide +kernel
theorem dX2_init_7 : decode cX2_init 7 = .ok (.newarray .int, 2) := by decide +kernel
theorem dX2_init_9 : decode cX2_init 9 = .ok (.putfield 9, 3) := by decide +kernel
theorem dX2_init_12 : decode cX2_init 12 = .ok (.aload_n 0, 1) := by decide +kernel
theorem dX2_init_13 : decode cX2_init 13 = .ok (.bipush 24, 2) := by decide +kernel
theorem dX2_init_15 : decode cX2_init 15 = .ok (.newarray .int, 2) := by decide +kernel
theorem dX2_init_17 : decode cX2_init 17 = .ok (.putfield 15, 3) := by decide +kernel
theorem dX2_init_20 : decode cX2_init 20 = .ok (.aload_n 0, 1) := by decide +kernel
theorem dX2_init_21 : decode cX2_init 21 = .ok (.bipush 8, 2) := by decide +kernel
theorem dX2_init_23 : decode cX2_init 23 = .ok (.putfield 18, 3) := by decide +kernel
theorem dX2_init_26 : decode cX2_init 26 = .ok (.aload_n 0, 1) := by decide +kernel
theorem dX2_init_27 : decode cX2_init 27 = .ok (.bipush 20, 2) := by decide +kernel
theorem dX2_init_29 : decode cX2_init 29 = .ok (.putfield 22, 3) := by decide +kernel
theorem dX2_init_32 : decode cX2_init 32 = .ok (.aload_n 0, 1) := by decide +kernel
theorem dX2_init_33 : decode cX2_init 33 = .ok (.bipush 40, 2) := by decide +kernel
theorem dX2_init_35 : decode cX2_init 35 = .ok (.putfield 25, 3) := by decide +kernel
theorem dX2_init_38 : decode cX2_init 38 = .ok (.aload_n 0, 1) := by decide +kernel
theorem dX2_init_39 : decode cX2_init 39 = .ok (.bipush 10, 2) := by decide +kernel
theorem dX2_init_41 : decode cX2_init 41 = .ok (.putfield 28, 3) := by decide +kernel
theorem dX2_init_44 : decode cX2_init 44 = .ok (.aload_n 0, 1) := by decide +kernel
theorem dX2_init_45 : decode cX2_init 45 = .ok (.sipush 10584, 3) := by decide +kernel
theorem dX2_init_48 : decode cX2_init 48 = .ok (.newarray .int, 2) := by decide +kernel
theorem dX2_init_50 : decode cX2_init 50 = .ok (.putfield 31, 3) := by decide +kernel
theorem dX2_init_53 : decode cX2_init 53 = .ok (.return_, 1) := by decide +kernel
set_option maxRecDepth 20000 in
theorem ggX2_renew_J7_fill_53178 : GoodIn wsX2_renew wsJ7_fill_53178 := goodIn_r _ [7] (by decide +kernel) (by decide +kernel)
set_option maxRecDepth 20000 in
theorem gX2_renew_J7_fill_53178 : GoodIn wsX2_renew (va_wsS RX2 34 yJ7_fill_53178 wsJ7_fill_53178) := goodIn_app (goodIn_of _ (by decide +kernel)) ggX2_renew_J7_fill_53178
theorem dX2_renew_0 : decode cX2_renew 0 = .ok (.aload_n 0, 1) := by decide +kernel
theorem dX2_renew_1 : decode cX2_renew 1 = .ok (.iload_n 1, 1) := by decide +kernel
theorem dX2_renew_2 : decode cX2_renew 2 = .ok (.putfield 18, 3) := by decide +kernel
theorem dX2_renew_5 : decode cX2_renew 5 = .ok (.aload_n 0, 1) := by decide +kernel
theorem dX2_renew_6 : decode cX2_renew 6 = .ok (.getfield 9, 3) := by decide +kernel
theorem dX2_renew_9 : decode cX2_renew 9 = .ok (.iconst 0, 1) := by decide +kernel
theorem dX2_renew_10 : decode cX2_renew 10 = .ok (.invokestatic 34, 3) := by decide +kernel
theorem dX2_renew_13 : decode cX2_renew 13 = .ok (.aload_n 0, 1) := by decide +kernel
theorem dX2_renew_14 : decode cX2_renew 14 = .ok (.getfield 15, 3) := by decide +kernel
theorem dX2_renew_17 : decode cX2_renew 17 = .ok (.iconst 0, 1) := by decide +kernel
theorem dX2_renew_18 : decode cX2_renew 18 = .ok (.invokestatic 34, 3) := by decide +kernel
theorem dX2_renew_21 : decode cX2_renew 21 = .ok (.return_, 1) := by decide +kernel
theorem dX2_places_0 : decode cX2_places 0 = .ok (.aload_n 0, 1) := by decide +kernel
theorem dX2_places_1 : decode cX2_places 1 = .ok (.getfield 18, 3) := by decide +kernel
theorem dX2_places_4 : decode cX2_places 4 = .ok (.ireturn, 1) := by decide +kernel
theorem dX2_nextLaw_0 : decode cX2_nextLaw 0 = .ok (.aload_n 0, 1) := by decide +kernel
theorem dX2_nextLaw_1 : decode cX2_nextLaw 1 = .ok (.getfield 22, 3) := by decide +kernel
theorem dX2_nextLaw_4 : decode cX2_nextLaw 4 = .ok (.ireturn, 1) := by decide +kernel
theorem dX2_bendLaw_0 : decode cX2_bendLaw 0 = .ok (.aload_n 0, 1) := by decide +kernel
theorem dX2_bendLaw_1 : decode cX2_bendLaw 1 = .ok (.getfield 25, 3) := by decide +kernel
theorem dX2_bendLaw_4 : decode cX2_bendLaw 4 = .ok (.ireturn, 1) := by decide +kernel
theorem dX2_mainSpread_0 : decode cX2_mainSpread 0 = .ok (.aload_n 0, 1) := by decide +kernel
theorem dX2_mainSpread_1 : decode cX2_mainSpread 1 = .ok (.getfield 28, 3) := by decide +kernel
theorem dX2_mainSpread_4 : decode cX2_mainSpread 4 = .ok (.ireturn, 1) := by decide +kernel
theorem dX2_sideSpread_0 : decode cX2_sideSpread 0 = .ok (.aload_n 0, 1) := by decide +kernel
theorem dX2_sideSpread_1 : decode cX2_sideSpread 1 = .ok (.getfield 40, 3) := by decide +kernel
theorem dX2_sideSpread_4 : decode cX2_sideSpread 4 = .ok (.ireturn, 1) := by decide +kernel
theorem dX2_baseOf_0 : decode cX2_baseOf 0 = .ok (.aload_n 0, 1) := by decide +kernel
theorem dX2_baseOf_1 : decode cX2_baseOf 1 = .ok (.getfield 9, 3) := by decide +kernel
theorem dX2_baseOf_4 : decode cX2_baseOf 4 = .ok (.iload_n 1, 1) := by decide +kernel
theorem dX2_baseOf_5 : decode cX2_baseOf 5 = .ok (.iaload, 1) := by decide +kernel
theorem dX2_baseOf_6 : decode cX2_baseOf 6 = .ok (.ireturn, 1) := by decide +kernel
theorem dX2_settingOf_0 : decode cX2_settingOf 0 = .ok (.aload_n 0, 1) := by decide +kernel
theorem dX2_settingOf_1 : decode cX2_settingOf 1 = .ok (.getfield 15, 3) := by decide +kernel
theorem dX2_settingOf_4 : decode cX2_settingOf 4 = .ok (.iload_n 1, 1) := by decide +kernel
theorem dX2_settingOf_5 : decode cX2_settingOf 5 = .ok (.iaload, 1) := by decide +kernel
theorem dX2_settingOf_6 : decode cX2_settingOf 6 = .ok (.ireturn, 1) := by decide +kernel
theorem dX2_putLaws_0 : decode cX2_putLaws 0 = .ok (.aload_n 0, 1) := by decide +kernel
theorem dX2_putLaws_1 : decode cX2_putLaws 1 = .ok (.iload_n 1, 1) := by decide +kernel
theorem dX2_putLaws_2 : decode cX2_putLaws 2 = .ok (.putfield 22, 3) := by decide +kernel
theorem dX2_putLaws_5 : decode cX2_putLaws 5 = .ok (.aload_n 0, 1) := by decide +kernel
theorem dX2_putLaws_6 : decode cX2_putLaws 6 = .ok (.iload_n 2, 1) := by decide +kernel
theorem dX2_putLaws_7 : decode cX2_putLaws 7 = .ok (.putfield 25, 3) := by decide +kernel
theorem dX2_putLaws_10 : decode cX2_putLaws 10 = .ok (.return_, 1) := by decide +kernel
theorem dX2_putSpread_0 : decode cX2_putSpread 0 = .ok (.aload_n 0, 1) := by decide +kernel
theorem dX2_putSpread_1 : decode cX2_putSpread 1 = .ok (.iload_n 1, 1) := by decide +kernel
theorem dX2_putSpread_2 : decode cX2_putSpread 2 = .ok (.putfield 28, 3) := by decide +kernel
theorem dX2_putSpread_5 : decode cX2_putSpread 5 = .ok (.aload_n 0, 1) := by decide +kernel
theorem dX2_putSpread_6 : decode cX2_putSpread 6 = .ok (.iload_n 2, 1) := by decide +kernel
theorem dX2_putSpread_7 : decode cX2_putSpread 7 = .ok (.putfield 40, 3) := by decide +kernel
theorem dX2_putSpread_10 : decode cX2_putSpread 10 = .ok (.return_, 1) := by decide +kernel
theorem dX2_putBase_0 : decode cX2_putBase 0 = .ok (.aload_n 0, 1) := by decide +kernel
theorem dX2_putBase_1 : decode cX2_putBase 1 = .ok (.getfield 9, 3) := by decide +kernel
theorem dX2_putBase_4 : decode cX2_putBase 4 = .ok (.iload_n 1, 1) := by decide +kernel
theorem dX2_putBase_5 : decode cX2_putBase 5 = .ok (.iload_n 2, 1) := by decide +kernel
theorem dX2_putBase_6 : decode cX2_putBase 6 = .ok (.iastore, 1) := by decide +kernel
theorem dX2_putBase_7 : decode cX2_putBase 7 = .ok (.return_, 1) := by decide +kernel
set_option maxRecDepth 20000 in
theorem ggX2_trySetting_X2_isLawful : GoodIn wsX2_trySetting wsX2_isLawful := goodIn_r _ [8, 9, 1, 10, 11, 12, 13, 14, 15, 16, 17, 18, 19, 20, 21] (by decide +kernel) (by decide +kernel)
set_option maxRecDepth 20000 in
theorem gX2_trySetting_X2_isLawful : GoodIn wsX2_trySetting (wsV RX2 43 RX2 yX2_isLawful wsX2_isLawful) := goodIn_app (goodIn_of _ (by decide +kernel)) ggX2_trySetting_X2_isLawful
theorem dX2_trySetting_0 : decode cX2_trySetting 0 = .ok (.aload_n 0, 1) := by decide +kernel
theorem dX2_trySetting_1 : decode cX2_trySetting 1 = .ok (.getfield 15, 3) := by decide +kernel
theorem dX2_trySetting_4 : decode cX2_trySetting 4 = .ok (.iload_n 1, 1) := by decide +kernel
theorem dX2_trySetting_5 : decode cX2_trySetting 5 = .ok (.iaload, 1) := by decide +kernel
theorem dX2_trySetting_6 : decode cX2_trySetting 6 = .ok (.istore_n 3, 1) := by decide +kernel
theorem dX2_trySetting_7 : decode cX2_trySetting 7 = .ok (.aload_n 0, 1) := by decide +kernel
theorem dX2_trySetting_8 : decode cX2_trySetting 8 = .ok (.getfield 15, 3) := by decide +kernel
theorem dX2_trySetting_11 : decode cX2_trySetting 11 = .ok (.iload_n 1, 1) := by decide +kernel
theorem dX2_trySetting_12 : decode cX2_trySetting 12 = .ok (.iload_n 2, 1) := by decide +kernel
theorem dX2_trySetting_13 : decode cX2_trySetting 13 = .ok (.iastore, 1) := by decide +kernel
theorem dX2_trySetting_14 : decode cX2_trySetting 14 = .ok (.aload_n 0, 1) := by decide +kernel
theorem dX2_trySetting_15 : decode cX2_trySetting 15 = .ok (.aload_n 0, 1) := by decide +kernel
theorem dX2_trySetting_16 : decode cX2_trySetting 16 = .ok (.getfield 22, 3) := by decide +kernel
theorem dX2_trySetting_19 : decode cX2_trySetting 19 = .ok (.aload_n 0, 1) := by decide +kernel
theorem dX2_trySetting_20 : decode cX2_trySetting 20 = .ok (.getfield 25, 3) := by decide +kernel
theorem dX2_trySetting_23 : decode cX2_trySetting 23 = .ok (.invokevirtual 43, 3) := by decide +kernel
theorem dX2_trySetting_26 : decode cX2_trySetting 26 = .ok (.ifCond .eq 5, 3) := by decide +kernel
theorem dX2_trySetting_29 : decode cX2_trySetting 29 = .ok (.iconst 1, 1) := by decide +kernel
theorem dX2_trySetting_30 : decode cX2_trySetting 30 = .ok (.ireturn, 1) := by decide +kernel
theorem dX2_trySetting_31 : decode cX2_trySetting 31 = .ok (.aload_n 0, 1) := by decide +kernel
theorem dX2_trySetting_32 : decode cX2_trySetting 32 = .ok (.getfield 15, 3) := by decide +kernel
theorem dX2_trySetting_35 : decode cX2_trySetting 35 = .ok (.iload_n 1, 1) := by decide +kernel
theorem dX2_trySetting_36 : decode cX2_trySetting 36 = .ok (.iload_n 3, 1) := by decide +kernel
theorem dX2_trySetting_37 : decode cX2_trySetting 37 = .ok (.iastore, 1) := by decide +kernel
theorem dX2_trySetting_38 : decode cX2_trySetting 38 = .ok (.iconst 0, 1) := by decide +kernel
theorem dX2_trySetting_39 : decode cX2_trySetting 39 = .ok (.ireturn, 1) := by decide +kernel
theorem dX2_isLawful_0 : decode cX2_isLawful 0 = .ok (.iconst 1, 1) := by decide +kernel
theorem dX2_isLawful_1 : decode cX2_isLawful 1 = .ok (.istore_n 3, 1) := by decide +kernel
theorem dX2_isLawful_2 : decode cX2_isLawful 2 = .ok (.iload_n 3, 1) := by decide +kernel
theorem dX2_isLawful_3 : decode cX2_isLawful 3 = .ok (.aload_n 0, 1) := by decide +kernel
theorem dX2_isLawful_4 : decode cX2_isLawful 4 = .ok (.getfield 18, 3) := by decide +kernel
theorem dX2_isLawful_7 : decode cX2_isLawful 7 = .ok (.if_icmp .ge 73, 3) := by decide +kernel
theorem dX2_isLawful_10 : decode cX2_isLawful 10 = .ok (.aload_n 0, 1) := by decide +kernel
theorem dX2_isLawful_11 : decode cX2_isLawful 11 = .ok (.getfield 15, 3) := by decide +kernel
theorem dX2_isLawful_14 : decode cX2_isLawful 14 = .ok (.iload_n 3, 1) := by decide +kernel
theorem dX2_isLawful_15 : decode cX2_isLawful 15 = .ok (.iaload, 1) := by decide +kernel
theorem dX2_isLawful_16 : decode cX2_isLawful 16 = .ok (.aload_n 0, 1) := by decide +kernel
theorem dX2_isLawful_17 : decode cX2_isLawful 17 = .ok (.getfield 15, 3) := by decide +kernel
theorem dX2_isLawful_20 : decode cX2_isLawful 20 = .ok (.iload_n 3, 1) := by decide +kernel
theorem dX2_isLawful_21 : decode cX2_isLawful 21 = .ok (.iconst 1, 1) := by decide +kernel
theorem dX2_isLawful_22 : decode cX2_isLawful 22 = .ok (.isub, 1) := by decide +kernel
theorem dX2_isLawful_23 : decode cX2_isLawful 23 = .ok (.iaload, 1) := by decide +kernel
theorem dX2_isLawful_24 : decode cX2_isLawful 24 = .ok (.isub, 1) := by decide +kernel
theorem dX2_isLawful_25 : decode cX2_isLawful 25 = .ok (.invokestatic 47, 3) := by decide +kernel
theorem dX2_isLawful_28 : decode cX2_isLawful 28 = .ok (.iload_n 1, 1) := by decide +kernel
theorem dX2_isLawful_29 : decode cX2_isLawful 29 = .ok (.if_icmp .le 5, 3) := by decide +kernel
theorem dX2_isLawful_32 : decode cX2_isLawful 32 = .ok (.iconst 0, 1) := by decide +kernel
theorem dX2_isLawful_33 : decode cX2_isLawful 33 = .ok (.ireturn, 1) := by decide +kernel
theorem dX2_isLawful_34 : decode cX2_isLawful 34 = .ok (.iload_n 3, 1) := by decide +kernel
theorem dX2_isLawful_35 : decode cX2_isLawful 35 = .ok (.iconst 2, 1) := by decide +kernel
theorem dX2_isLawful_36 : decode cX2_isLawful 36 = .ok (.if_icmp .lt 38, 3) := by decide +kernel
theorem dX2_isLawful_39 : decode cX2_isLawful 39 = .ok (.iconst 2, 1) := by decide +kernel
theorem dX2_isLawful_40 : decode cX2_isLawful 40 = .ok (.aload_n 0, 1) := by decide +kernel
theorem dX2_isLawful_41 : decode cX2_isLawful 41 = .ok (.getfield 15, 3) := by decide +kernel
theorem dX2_isLawful_44 : decode cX2_isLawful 44 = .ok (.iload_n 3, 1) := by decide +kernel
theorem dX2_isLawful_45 : decode cX2_isLawful 45 = .ok (.iconst 1, 1) := by decide +kernel
theorem dX2_isLawful_46 : decode cX2_isLawful 46 = .ok (.isub, 1) := by decide +kernel
theorem dX2_isLawful_47 : decode cX2_isLawful 47 = .ok (.iaload, 1) := by decide +kernel
theorem dX2_isLawful_48 : decode cX2_isLawful 48 = .ok (.imul, 1) := by decide +kernel
theorem dX2_isLawful_49 : decode cX2_isLawful 49 = .ok (.aload_n 0, 1) := by decide +kernel
theorem dX2_isLawful_50 : decode cX2_isLawful 50 = .ok (.getfield 15, 3) := by decide +kernel
theorem dX2_isLawful_53 : decode cX2_isLawful 53 = .ok (.iload_n 3, 1) := by decide +kernel
theorem dX2_isLawful_54 : decode cX2_isLawful 54 = .ok (.iconst 2, 1) := by decide +kernel
theorem dX2_isLawful_55 : decode cX2_isLawful 55 = .ok (.isub, 1) := by decide +kernel
theorem dX2_isLawful_56 : decode cX2_isLawful 56 = .ok (.iaload, 1) := by decide +kernel
theorem dX2_isLawful_57 : decode cX2_isLawful 57 = .ok (.isub, 1) := by decide +kernel
theorem dX2_isLawful_58 : decode cX2_isLawful 58 = .ok (.aload_n 0, 1) := by decide +kernel
theorem dX2_isLawful_59 : decode cX2_isLawful 59 = .ok (.getfield 15, 3) := by decide +kernel
theorem dX2_isLawful_62 : decode cX2_isLawful 62 = .ok (.iload_n 3, 1) := by decide +kernel
theorem dX2_isLawful_63 : decode cX2_isLawful 63 = .ok (.iaload, 1) := by decide +kernel
theorem dX2_isLawful_64 : decode cX2_isLawful 64 = .ok (.isub, 1) := by decide +kernel
theorem dX2_isLawful_65 : decode cX2_isLawful 65 = .ok (.invokestatic 47, 3) := by decide +kernel
theorem dX2_isLawful_68 : decode cX2_isLawful 68 = .ok (.iload_n 2, 1) := by decide +kernel
theorem dX2_isLawful_69 : decode cX2_isLawful 69 = .ok (.if_icmp .le 5, 3) := by decide +kernel
theorem dX2_isLawful_72 : decode cX2_isLawful 72 = .ok (.iconst 0, 1) := by decide +kernel
theorem dX2_isLawful_73 : decode cX2_isLawful 73 = .ok (.ireturn, 1) := by decide +kernel
theorem dX2_isLawful_74 : decode cX2_isLawful 74 = .ok (.iinc 3 1, 3) := by decide +kernel
theorem dX2_isLawful_77 : decode cX2_isLawful 77 = .ok (.goto (-75), 3) := by decide +kernel
theorem dX2_isLawful_80 : decode cX2_isLawful 80 = .ok (.iconst 1, 1) := by decide +kernel
theorem dX2_isLawful_81 : decode cX2_isLawful 81 = .ok (.ireturn, 1) := by decide +kernel
theorem dX2_errorOf_0 : decode cX2_errorOf 0 = .ok (.aload_n 0, 1) := by decide +kernel
theorem dX2_errorOf_1 : decode cX2_errorOf 1 = .ok (.getfield 9, 3) := by decide +kernel
theorem dX2_errorOf_4 : decode cX2_errorOf 4 = .ok (.iload_n 1, 1) := by decide +kernel
theorem dX2_errorOf_5 : decode cX2_errorOf 5 = .ok (.iaload, 1) := by decide +kernel
theorem dX2_errorOf_6 : decode cX2_errorOf 6 = .ok (.aload_n 0, 1) := by decide +kernel
theorem dX2_errorOf_7 : decode cX2_errorOf 7 = .ok (.getfield 28, 3) := by decide +kernel
theorem dX2_errorOf_10 : decode cX2_errorOf 10 = .ok (.aload_n 0, 1) := by decide +kernel
theorem dX2_errorOf_11 : decode cX2_errorOf 11 = .ok (.getfield 15, 3) := by decide +kernel
theorem dX2_errorOf_14 : decode cX2_errorOf 14 = .ok (.iload_n 1, 1) := by decide +kernel
theorem dX2_errorOf_15 : decode cX2_errorOf 15 = .ok (.iaload, 1) := by decide +kernel
theorem dX2_errorOf_16 : decode cX2_errorOf 16 = .ok (.imul, 1) := by decide +kernel
theorem dX2_errorOf_17 : decode cX2_errorOf 17 = .ok (.iadd, 1) := by decide +kernel
theorem dX2_errorOf_18 : decode cX2_errorOf 18 = .ok (.istore_n 2, 1) := by decide +kernel
theorem dX2_errorOf_19 : decode cX2_errorOf 19 = .ok (.iload_n 1, 1) := by decide +kernel
theorem dX2_errorOf_20 : decode cX2_errorOf 20 = .ok (.ifCond .le 19, 3) := by decide +kernel
theorem dX2_errorOf_23 : decode cX2_errorOf 23 = .ok (.iload_n 2, 1) := by decide +kernel
theorem dX2_errorOf_24 : decode cX2_errorOf 24 = .ok (.aload_n 0, 1) := by decide +kernel
theorem dX2_errorOf_25 : decode cX2_errorOf 25 = .ok (.getfield 40, 3) := by decide +kernel
theorem dX2_errorOf_28 : decode cX2_errorOf 28 = .ok (.aload_n 0, 1) := by decide +kernel
theorem dX2_errorOf_29 : decode cX2_errorOf 29 = .ok (.getfield 15, 3) := by decide +kernel
theorem dX2_errorOf_32 : decode cX2_errorOf 32 = .ok (.iload_n 1, 1) := by decide +kernel
theorem dX2_errorOf_33 : decode cX2_errorOf 33 = .ok (.iconst 1, 1) := by decide +kernel
theorem dX2_errorOf_34 : decode cX2_errorOf 34 = .ok (.isub, 1) := by decide +kernel
theorem dX2_errorOf_35 : decode cX2_errorOf 35 = .ok (.iaload, 1) := by decide +kernel
theorem dX2_errorOf_36 : decode cX2_errorOf 36 = .ok (.imul, 1) := by decide +kernel
theorem dX2_errorOf_37 : decode cX2_errorOf 37 = .ok (.iadd, 1) := by decide +kernel
theorem dX2_errorOf_38 : decode cX2_errorOf 38 = .ok (.istore_n 2, 1) := by decide +kernel
theorem dX2_errorOf_39 : decode cX2_errorOf 39 = .ok (.iload_n 1, 1) := by decide +kernel
theorem dX2_errorOf_40 : decode cX2_errorOf 40 = .ok (.aload_n 0, 1) := by decide +kernel
theorem dX2_errorOf_41 : decode cX2_errorOf 41 = .ok (.getfield 18, 3) := by decide +kernel
theorem dX2_errorOf_44 : decode cX2_errorOf 44 = .ok (.iconst 1, 1) := by decide +kernel
theorem dX2_errorOf_45 : decode cX2_errorOf 45 = .ok (.isub, 1) := by decide +kernel
theorem dX2_errorOf_46 : decode cX2_errorOf 46 = .ok (.if_icmp .ge 19, 3) := by decide +kernel
theorem dX2_errorOf_49 : decode cX2_errorOf 49 = .ok (.iload_n 2, 1) := by decide +kernel
theorem dX2_errorOf_50 : decode cX2_errorOf 50 = .ok (.aload_n 0, 1) := by decide +kernel
theorem dX2_errorOf_51 : decode cX2_errorOf 51 = .ok (.getfield 40, 3) := by decide +kernel
theorem dX2_errorOf_54 : decode cX2_errorOf 54 = .ok (.aload_n 0, 1) := by decide +kernel
theorem dX2_errorOf_55 : decode cX2_errorOf 55 = .ok (.getfield 15, 3) := by decide +kernel
theorem dX2_errorOf_58 : decode cX2_errorOf 58 = .ok (.iload_n 1, 1) := by decide +kernel
theorem dX2_errorOf_59 : decode cX2_errorOf 59 = .ok (.iconst 1, 1) := by decide +kernel
theorem dX2_errorOf_60 : decode cX2_errorOf 60 = .ok (.iadd, 1) := by decide +kernel
theorem dX2_errorOf_61 : decode cX2_errorOf 61 = .ok (.iaload, 1) := by decide +kernel
theorem dX2_errorOf_62 : decode cX2_errorOf 62 = .ok (.imul, 1) := by decide +kernel
theorem dX2_errorOf_63 : decode cX2_errorOf 63 = .ok (.iadd, 1) := by decide +kernel
theorem dX2_errorOf_64 : decode cX2_errorOf 64 = .ok (.istore_n 2, 1) := by decide +kernel
theorem dX2_errorOf_65 : decode cX2_errorOf 65 = .ok (.iload_n 2, 1) := by decide +kernel
theorem dX2_errorOf_66 : decode cX2_errorOf 66 = .ok (.ireturn, 1) := by decide +kernel
set_option maxRecDepth 20000 in
theorem ggX2_sizeOf_X2_errorOf : GoodIn wsX2_sizeOf wsX2_errorOf := goodIn_r _ [9, 10, 11, 12, 13, 14, 15, 16, 17, 18, 19, 20, 21, 22] (by decide +kernel) (by decide +kernel)
set_option maxRecDepth 20000 in
theorem gX2_sizeOf_X2_errorOf : GoodIn wsX2_sizeOf (wsV RX2 53 RX2 yX2_errorOf wsX2_errorOf) := goodIn_app (goodIn_of _ (by decide +kernel)) ggX2_sizeOf_X2_errorOf
theorem dX2_sizeOf_0 : decode cX2_sizeOf 0 = .ok (.aload_n 0, 1) := by decide +kernel
theorem dX2_sizeOf_1 : decode cX2_sizeOf 1 = .ok (.iload_n 1, 1) := by decide +kernel
theorem dX2_sizeOf_2 : decode cX2_sizeOf 2 = .ok (.invokevirtual 53, 3) := by decide +kernel
theorem dX2_sizeOf_5 : decode cX2_sizeOf 5 = .ok (.invokestatic 47, 3) := by decide +kernel
theorem dX2_sizeOf_8 : decode cX2_sizeOf 8 = .ok (.ireturn, 1) := by decide +kernel
set_option maxRecDepth 20000 in
theorem ggX2_unevenness_X2_sizeOf : GoodIn wsX2_unevenness wsX2_sizeOf := goodIn_r _ [6, 7, 8, 9, 10, 11, 12, 13, 5, 14, 15, 16, 17, 18, 1, 25, 26, 27, 28, 29, 30, 31, 32] (by decide +kernel) (by decide +kernel)
set_option maxRecDepth 20000 in
theorem gX2_unevenness_X2_sizeOf : GoodIn wsX2_unevenness (wsV RX2 56 RX2 yX2_sizeOf wsX2_sizeOf) := goodIn_app (goodIn_of _ (by decide +kernel)) ggX2_unevenness_X2_sizeOf
set_option maxRecDepth 20000 in
theorem ggX2_unevenness_X2_together : GoodIn wsX2_unevenness wsX2_together := goodIn_r _ [21, 22, 23, 9, 24] (by decide +kernel) (by decide +kernel)
set_option maxRecDepth 20000 in
theorem gX2_unevenness_X2_together : GoodIn wsX2_unevenness (va_wsS RX2 59 yX2_together wsX2_together) := goodIn_app (goodIn_of _ (by decide +kernel)) ggX2_unevenness_X2_together
theorem dX2_unevenness_0 : decode cX2_unevenness 0 = .ok (.iconst 0, 1) := by decide +kernel
theorem dX2_unevenness_1 : decode cX2_unevenness 1 = .ok (.istore_n 2, 1) := by decide +kernel
theorem dX2_unevenness_2 : decode cX2_unevenness 2 = .ok (.iconst 0, 1) := by decide +kernel
theorem dX2_unevenness_3 : decode cX2_unevenness 3 = .ok (.istore_n 3, 1) := by decide +kernel
theorem dX2_unevenness_4 : decode cX2_unevenness 4 = .ok (.iload_n 3, 1) := by decide +kernel
theorem dX2_unevenness_5 : decode cX2_unevenness 5 = .ok (.aload_n 0, 1) := by decide +kernel
theorem dX2_unevenness_6 : decode cX2_unevenness 6 = .ok (.getfield 18, 3) := by decide +kernel
theorem dX2_unevenness_9 : decode cX2_unevenness 9 = .ok (.if_icmp .ge 20, 3) := by decide +kernel
theorem dX2_unevenness_12 : decode cX2_unevenness 12 = .ok (.iload_n 2, 1) := by decide +kernel
theorem dX2_unevenness_13 : decode cX2_unevenness 13 = .ok (.aload_n 0, 1) := by decide +kernel
theorem dX2_unevenness_14 : decode cX2_unevenness 14 = .ok (.iload_n 3, 1) := by decide +kernel
theorem dX2_unevenness_15 : decode cX2_unevenness 15 = .ok (.invokevirtual 56, 3) := by decide +kernel
theorem dX2_unevenness_18 : decode cX2_unevenness 18 = .ok (.iload_n 1, 1) := by decide +kernel
theorem dX2_unevenness_19 : decode cX2_unevenness 19 = .ok (.invokestatic 59, 3) := by decide +kernel
theorem dX2_unevenness_22 : decode cX2_unevenness 22 = .ok (.istore_n 2, 1) := by decide +kernel
theorem dX2_unevenness_23 : decode cX2_unevenness 23 = .ok (.iinc 3 1, 3) := by decide +kernel
theorem dX2_unevenness_26 : decode cX2_unevenness 26 = .ok (.goto (-22), 3) := by decide +kernel
theorem dX2_unevenness_29 : decode cX2_unevenness 29 = .ok (.iload_n 2, 1) := by decide +kernel
theorem dX2_unevenness_30 : decode cX2_unevenness 30 = .ok (.ireturn, 1) := by decide +kernel
theorem dX2_together_0 : decode cX2_together 0 = .ok (.iload_n 2, 1) := by decide +kernel
theorem dX2_together_1 : decode cX2_together 1 = .ok (.ifCond .eq 9, 3) := by decide +kernel
theorem dX2_together_4 : decode cX2_together 4 = .ok (.iload_n 0, 1) := by decide +kernel
theorem dX2_together_5 : decode cX2_together 5 = .ok (.iload_n 1, 1) := by decide +kernel
theorem dX2_together_6 : decode cX2_together 6 = .ok (.iadd, 1) := by decide +kernel
theorem dX2_together_7 : decode cX2_together 7 = .ok (.goto 8, 3) := by decide +kernel
theorem dX2_together_10 : decode cX2_together 10 = .ok (.iload_n 0, 1) := by decide +kernel
theorem dX2_together_11 : decode cX2_together 11 = .ok (.iload_n 1, 1) := by decide +kernel
theorem dX2_together_12 : decode cX2_together 12 = .ok (.invokestatic 63, 3) := by decide +kernel
theorem dX2_together_15 : decode cX2_together 15 = .ok (.ireturn, 1) := by decide +kernel
set_option maxRecDepth 20000 in
theorem ggX2_settle_X2_weighLast : GoodIn wsX2_settle wsX2_weighLast := goodIn_r _ [7, 1, 8, 9, 10, 11, 12, 13, 14, 15, 16, 17, 6, 18, 63, 64, 65, 66, 67, 68, 69, 70] (by decide +kernel) (by decide +kernel)
set_option maxRecDepth 20000 in
theorem gX2_settle_X2_weighLast : GoodIn wsX2_settle (wsV RX2 67 RX2 yX2_weighLast wsX2_weighLast) := goodIn_app (goodIn_of _ (by decide +kernel)) ggX2_settle_X2_weighLast
set_option maxRecDepth 20000 in
theorem ggX2_settle_X2_weigh : GoodIn wsX2_settle wsX2_weigh := goodIn_r _ [22, 23, 24, 25, 14, 26, 27, 28, 29, 8, 16, 17, 6, 18, 30, 31, 32, 33, 34, 9, 10, 11, 35, 36, 37, 38, 39, 40, 41, 42, 43, 63, 64, 65, 66, 67, 68, 69, 70] (by decide +kernel) (by decide +kernel)
set_option maxRecDepth 20000 in
theorem gX2_settle_X2_weigh : GoodIn wsX2_settle (wsV RX2 70 RX2 yX2_weigh wsX2_weigh) := goodIn_app (goodIn_of _ (by decide +kernel)) ggX2_settle_X2_weigh
set_option maxRecDepth 20000 in
theorem ggX2_settle_X2_settleFirstTwo : GoodIn wsX2_settle wsX2_settleFirstTwo := goodIn_r _ [47, 34, 23, 27, 28, 14, 29, 24, 25, 26, 9, 10, 11, 12, 13, 15, 8, 2, 16, 17, 6, 18, 48, 49, 50, 63, 64, 65, 66, 67, 68, 69, 70] (by decide +kernel) (by decide +kernel)
set_option maxRecDepth 20000 in
theorem gX2_settle_X2_settleFirstTwo : GoodIn wsX2_settle (wsV RX2 74 RX2 yX2_settleFirstTwo wsX2_settleFirstTwo) := goodIn_app (goodIn_of _ (by decide +kernel)) ggX2_settle_X2_settleFirstTwo
set_option maxRecDepth 20000 in
theorem ggX2_settle_X2_sizeOf : GoodIn wsX2_settle wsX2_sizeOf := goodIn_r _ [54, 12, 13, 14, 15, 55, 56, 57, 6, 58, 9, 10, 2, 11, 1, 63, 64, 65, 66, 67, 68, 69, 70] (by decide +kernel) (by decide +kernel)
set_option maxRecDepth 20000 in
theorem gX2_settle_X2_sizeOf : GoodIn wsX2_settle (wsV RX2 56 RX2 yX2_sizeOf wsX2_sizeOf) := goodIn_app (goodIn_of _ (by decide +kernel)) ggX2_settle_X2_sizeOf
set_option maxRecDepth 20000 in
theorem ggX2_settle_X2_lesserAfter : GoodIn wsX2_settle wsX2_lesserAfter := goodIn_r _ [62, 2, 9, 10, 11, 12, 13, 14, 15, 8, 16, 17, 6, 18, 35, 36, 37, 38, 23, 39, 27, 28, 29, 40, 41, 42, 43, 24, 25, 26, 48, 49, 50, 63, 64, 65, 66, 67, 68, 69, 70] (by decide +kernel) (by decide +kernel)
set_option maxRecDepth 20000 in
theorem gX2_settle_X2_lesserAfter : GoodIn wsX2_settle (wsV RX2 78 RX2 yX2_lesserAfter wsX2_lesserAfter) := goodIn_app (goodIn_of _ (by decide +kernel)) ggX2_settle_X2_lesserAfter
set_option maxRecDepth 20000 in
theorem ggX2_settle_X2_together : GoodIn wsX2_settle wsX2_together := goodIn_r _ [50, 24, 25, 14, 26] (by decide +kernel) (by decide +kernel)
set_option maxRecDepth 20000 in
theorem gX2_settle_X2_together : GoodIn wsX2_settle (va_wsS RX2 59 yX2_together wsX2_together) := goodIn_app (goodIn_of _ (by decide +kernel)) ggX2_settle_X2_together
theorem dX2_settle_0 : decode cX2_settle 0 = .ok (.aload_n 0, 1) := by decide +kernel
theorem dX2_settle_1 : decode cX2_settle 1 = .ok (.invokevirtual 67, 3) := by decide +kernel
theorem dX2_settle_4 : decode cX2_settle 4 = .ok (.aload_n 0, 1) := by decide +kernel
theorem dX2_settle_5 : decode cX2_settle 5 = .ok (.getfield 18, 3) := by decide +kernel
theorem dX2_settle_8 : decode cX2_settle 8 = .ok (.iconst 2, 1) := by decide +kernel
theorem dX2_settle_9 : decode cX2_settle 9 = .ok (.isub, 1) := by decide +kernel
theorem dX2_settle_10 : decode cX2_settle 10 = .ok (.istore_n 2, 1) := by decide +kernel
theorem dX2_settle_11 : decode cX2_settle 11 = .ok (.iload_n 2, 1) := by decide +kernel
theorem dX2_settle_12 : decode cX2_settle 12 = .ok (.iconst 1, 1) := by decide +kernel
theorem dX2_settle_13 : decode cX2_settle 13 = .ok (.if_icmp .lt 15, 3) := by decide +kernel
theorem dX2_settle_16 : decode cX2_settle 16 = .ok (.aload_n 0, 1) := by decide +kernel
theorem dX2_settle_17 : decode cX2_settle 17 = .ok (.iload_n 2, 1) := by decide +kernel
theorem dX2_settle_18 : decode cX2_settle 18 = .ok (.iload_n 1, 1) := by decide +kernel
theorem dX2_settle_19 : decode cX2_settle 19 = .ok (.invokevirtual 70, 3) := by decide +kernel
theorem dX2_settle_22 : decode cX2_settle 22 = .ok (.iinc 2 (-1), 3) := by decide +kernel
theorem dX2_settle_25 : decode cX2_settle 25 = .ok (.goto (-14), 3) := by decide +kernel
theorem dX2_settle_28 : decode cX2_settle 28 = .ok (.aload_n 0, 1) := by decide +kernel
theorem dX2_settle_29 : decode cX2_settle 29 = .ok (.iload_n 1, 1) := by decide +kernel
theorem dX2_settle_30 : decode cX2_settle 30 = .ok (.invokevirtual 74, 3) := by decide +kernel
theorem dX2_settle_33 : decode cX2_settle 33 = .ok (.istore_n 2, 1) := by decide +kernel
theorem dX2_settle_34 : decode cX2_settle 34 = .ok (.aload_n 0, 1) := by decide +kernel
theorem dX2_settle_35 : decode cX2_settle 35 = .ok (.iconst 0, 1) := by decide +kernel
theorem dX2_settle_36 : decode cX2_settle 36 = .ok (.invokevirtual 56, 3) := by decide +kernel
theorem dX2_settle_39 : decode cX2_settle 39 = .ok (.istore_n 3, 1) := by decide +kernel
theorem dX2_settle_40 : decode cX2_settle 40 = .ok (.iconst 1, 1) := by decide +kernel
theorem dX2_settle_41 : decode cX2_settle 41 = .ok (.istore 4, 2) := by decide +kernel
theorem dX2_settle_43 : decode cX2_settle 43 = .ok (.iload 4, 2) := by decide +kernel
theorem dX2_settle_45 : decode cX2_settle 45 = .ok (.aload_n 0, 1) := by decide +kernel
theorem dX2_settle_46 : decode cX2_settle 46 = .ok (.getfield 18, 3) := by decide +kernel
theorem dX2_settle_49 : decode cX2_settle 49 = .ok (.iconst 1, 1) := by decide +kernel
theorem dX2_settle_50 : decode cX2_settle 50 = .ok (.isub, 1) := by decide +kernel
theorem dX2_settle_51 : decode cX2_settle 51 = .ok (.if_icmp .ge 39, 3) := by decide +kernel
theorem dX2_settle_54 : decode cX2_settle 54 = .ok (.aload_n 0, 1) := by decide +kernel
theorem dX2_settle_55 : decode cX2_settle 55 = .ok (.getfield 15, 3) := by decide +kernel
theorem dX2_settle_58 : decode cX2_settle 58 = .ok (.iload 4, 2) := by decide +kernel
theorem dX2_settle_60 : decode cX2_settle 60 = .ok (.iconst 1, 1) := by decide +kernel
theorem dX2_settle_61 : decode cX2_settle 61 = .ok (.iadd, 1) := by decide +kernel
theorem dX2_settle_62 : decode cX2_settle 62 = .ok (.aload_n 0, 1) := by decide +kernel
theorem dX2_settle_63 : decode cX2_settle 63 = .ok (.iload 4, 2) := by decide +kernel
theorem dX2_settle_65 : decode cX2_settle 65 = .ok (.iload_n 3, 1) := by decide +kernel
theorem dX2_settle_66 : decode cX2_settle 66 = .ok (.iload_n 2, 1) := by decide +kernel
theorem dX2_settle_67 : decode cX2_settle 67 = .ok (.iload_n 1, 1) := by decide +kernel
theorem dX2_settle_68 : decode cX2_settle 68 = .ok (.invokevirtual 78, 3) := by decide +kernel
theorem dX2_settle_71 : decode cX2_settle 71 = .ok (.iastore, 1) := by decide +kernel
theorem dX2_settle_72 : decode cX2_settle 72 = .ok (.iload_n 3, 1) := by decide +kernel
theorem dX2_settle_73 : decode cX2_settle 73 = .ok (.aload_n 0, 1) := by decide +kernel
theorem dX2_settle_74 : decode cX2_settle 74 = .ok (.iload 4, 2) := by decide +kernel
theorem dX2_settle_76 : decode cX2_settle 76 = .ok (.invokevirtual 56, 3) := by decide +kernel
theorem dX2_settle_79 : decode cX2_settle 79 = .ok (.iload_n 1, 1) := by decide +kernel
theorem dX2_settle_80 : decode cX2_settle 80 = .ok (.invokestatic 59, 3) := by decide +kernel
theorem dX2_settle_83 : decode cX2_settle 83 = .ok (.istore_n 3, 1) := by decide +kernel
theorem dX2_settle_84 : decode cX2_settle 84 = .ok (.iinc 4 1, 3) := by decide +kernel
theorem dX2_settle_87 : decode cX2_settle 87 = .ok (.goto (-44), 3) := by decide +kernel
theorem dX2_settle_90 : decode cX2_settle 90 = .ok (.iload_n 2, 1) := by decide +kernel
theorem dX2_settle_91 : decode cX2_settle 91 = .ok (.ireturn, 1) := by decide +kernel
set_option maxRecDepth 20000 in
theorem ggX2_weighLast_X2_spot : GoodIn wsX2_weighLast wsX2_spot := goodIn_r _ [13] (by decide +kernel) (by decide +kernel)
set_option maxRecDepth 20000 in
theorem gX2_weighLast_X2_spot : GoodIn wsX2_weighLast (va_wsS RX2 82 yX2_spot wsX2_spot) := goodIn_app (goodIn_of _ (by decide +kernel)) ggX2_weighLast_X2_spot
theorem dX2_weighLast_0 : decode cX2_weighLast 0 = .ok (.aload_n 0, 1) := by decide +kernel
theorem dX2_weighLast_1 : decode cX2_weighLast 1 = .ok (.getfield 18, 3) := by decide +kernel
theorem dX2_weighLast_4 : decode cX2_weighLast 4 = .ok (.iconst 1, 1) := by decide +kernel
theorem dX2_weighLast_5 : decode cX2_weighLast 5 = .ok (.isub, 1) := by decide +kernel
theorem dX2_weighLast_6 : decode cX2_weighLast 6 = .ok (.istore_n 1, 1) := by decide +kernel
theorem dX2_weighLast_7 : decode cX2_weighLast 7 = .ok (.bipush (-10), 2) := by decide +kernel
theorem dX2_weighLast_9 : decode cX2_weighLast 9 = .ok (.istore_n 2, 1) := by decide +kernel
theorem dX2_weighLast_10 : decode cX2_weighLast 10 = .ok (.iload_n 2, 1) := by decide +kernel
theorem dX2_weighLast_11 : decode cX2_weighLast 11 = .ok (.bipush 10, 2) := by decide +kernel
theorem dX2_weighLast_13 : decode cX2_weighLast 13 = .ok (.if_icmp .gt 58, 3) := by decide +kernel
theorem dX2_weighLast_16 : decode cX2_weighLast 16 = .ok (.bipush (-10), 2) := by decide +kernel
theorem dX2_weighLast_18 : decode cX2_weighLast 18 = .ok (.istore_n 3, 1) := by decide +kernel
theorem dX2_weighLast_19 : decode cX2_weighLast 19 = .ok (.iload_n 3, 1) := by decide +kernel
theorem dX2_weighLast_20 : decode cX2_weighLast 20 = .ok (.bipush 10, 2) := by decide +kernel
theorem dX2_weighLast_22 : decode cX2_weighLast 22 = .ok (.if_icmp .gt 43, 3) := by decide +kernel
theorem dX2_weighLast_25 : decode cX2_weighLast 25 = .ok (.aload_n 0, 1) := by decide +kernel
theorem dX2_weighLast_26 : decode cX2_weighLast 26 = .ok (.getfield 31, 3) := by decide +kernel
theorem dX2_weighLast_29 : decode cX2_weighLast 29 = .ok (.iload_n 1, 1) := by decide +kernel
theorem dX2_weighLast_30 : decode cX2_weighLast 30 = .ok (.iload_n 2, 1) := by decide +kernel
theorem dX2_weighLast_31 : decode cX2_weighLast 31 = .ok (.iload_n 3, 1) := by decide +kernel
theorem dX2_weighLast_32 : decode cX2_weighLast 32 = .ok (.invokestatic 82, 3) := by decide +kernel
theorem dX2_weighLast_35 : decode cX2_weighLast 35 = .ok (.aload_n 0, 1) := by decide +kernel
theorem dX2_weighLast_36 : decode cX2_weighLast 36 = .ok (.getfield 9, 3) := by decide +kernel
theorem dX2_weighLast_39 : decode cX2_weighLast 39 = .ok (.iload_n 1, 1) := by decide +kernel
theorem dX2_weighLast_40 : decode cX2_weighLast 40 = .ok (.iaload, 1) := by decide +kernel
theorem dX2_weighLast_41 : decode cX2_weighLast 41 = .ok (.aload_n 0, 1) := by decide +kernel
theorem dX2_weighLast_42 : decode cX2_weighLast 42 = .ok (.getfield 28, 3) := by decide +kernel
theorem dX2_weighLast_45 : decode cX2_weighLast 45 = .ok (.iload_n 3, 1) := by decide +kernel
theorem dX2_weighLast_46 : decode cX2_weighLast 46 = .ok (.imul, 1) := by decide +kernel
theorem dX2_weighLast_47 : decode cX2_weighLast 47 = .ok (.iadd, 1) := by decide +kernel
theorem dX2_weighLast_48 : decode cX2_weighLast 48 = .ok (.aload_n 0, 1) := by decide +kernel
theorem dX2_weighLast_49 : decode cX2_weighLast 49 = .ok (.getfield 40, 3) := by decide +kernel
theorem dX2_weighLast_52 : decode cX2_weighLast 52 = .ok (.iload_n 2, 1) := by decide +kernel
theorem dX2_weighLast_53 : decode cX2_weighLast 53 = .ok (.imul, 1) := by decide +kernel
theorem dX2_weighLast_54 : decode cX2_weighLast 54 = .ok (.iadd, 1) := by decide +kernel
theorem dX2_weighLast_55 : decode cX2_weighLast 55 = .ok (.invokestatic 47, 3) := by decide +kernel
theorem dX2_weighLast_58 : decode cX2_weighLast 58 = .ok (.iastore, 1) := by decide +kernel
theorem dX2_weighLast_59 : decode cX2_weighLast 59 = .ok (.iinc 3 1, 3) := by decide +kernel
theorem dX2_weighLast_62 : decode cX2_weighLast 62 = .ok (.goto (-43), 3) := by decide +kernel
theorem dX2_weighLast_65 : decode cX2_weighLast 65 = .ok (.iinc 2 1, 3) := by decide +kernel
theorem dX2_weighLast_68 : decode cX2_weighLast 68 = .ok (.goto (-58), 3) := by decide +kernel
theorem dX2_weighLast_71 : decode cX2_weighLast 71 = .ok (.return_, 1) := by decide +kernel
set_option maxRecDepth 20000 in
theorem ggX2_weigh_X2_spot : GoodIn wsX2_weigh wsX2_spot := goodIn_r _ [13] (by decide +kernel) (by decide +kernel)
set_option maxRecDepth 20000 in
theorem gX2_weigh_X2_spot : GoodIn wsX2_weigh (va_wsS RX2 82 yX2_spot wsX2_spot) := goodIn_app (goodIn_of _ (by decide +kernel)) ggX2_weigh_X2_spot
set_option maxRecDepth 20000 in
theorem ggX2_weigh_X2_leastRest : GoodIn wsX2_weigh wsX2_leastRest := goodIn_r _ [17, 18, 19, 20, 21, 9, 10, 11, 12, 13, 22, 23, 24, 25, 1, 26, 6, 7, 4, 8, 27, 28, 29, 30, 2, 3, 5, 31, 32, 33, 34, 35, 36, 37, 38] (by decide +kernel) (by decide +kernel)
set_option maxRecDepth 20000 in
theorem gX2_weigh_X2_leastRest : GoodIn wsX2_weigh (wsV RX2 89 RX2 yX2_leastRest wsX2_leastRest) := goodIn_app (goodIn_of _ (by decide +kernel)) ggX2_weigh_X2_leastRest
theorem dX2_weigh_0 : decode cX2_weigh 0 = .ok (.bipush (-10), 2) := by decide +kernel
theorem dX2_weigh_2 : decode cX2_weigh 2 = .ok (.istore_n 3, 1) := by decide +kernel
theorem dX2_weigh_3 : decode cX2_weigh 3 = .ok (.iload_n 3, 1) := by decide +kernel
theorem dX2_weigh_4 : decode cX2_weigh 4 = .ok (.bipush 10, 2) := by decide +kernel
theorem dX2_weigh_6 : decode cX2_weigh 6 = .ok (.if_icmp .gt 73, 3) := by decide +kernel
theorem dX2_weigh_9 : decode cX2_weigh 9 = .ok (.bipush (-10), 2) := by decide +kernel
theorem dX2_weigh_11 : decode cX2_weigh 11 = .ok (.iload_n 3, 1) := by decide +kernel
theorem dX2_weigh_12 : decode cX2_weigh 12 = .ok (.aload_n 0, 1) := by decide +kernel
theorem dX2_weigh_13 : decode cX2_weigh 13 = .ok (.getfield 22, 3) := by decide +kernel
theorem dX2_weigh_16 : decode cX2_weigh 16 = .ok (.isub, 1) := by decide +kernel
theorem dX2_weigh_17 : decode cX2_weigh 17 = .ok (.invokestatic 63, 3) := by decide +kernel
theorem dX2_weigh_20 : decode cX2_weigh 20 = .ok (.istore 4, 2) := by decide +kernel
theorem dX2_weigh_22 : decode cX2_weigh 22 = .ok (.bipush 10, 2) := by decide +kernel
theorem dX2_weigh_24 : decode cX2_weigh 24 = .ok (.iload_n 3, 1) := by decide +kernel
theorem dX2_weigh_25 : decode cX2_weigh 25 = .ok (.aload_n 0, 1) := by decide +kernel
theorem dX2_weigh_26 : decode cX2_weigh 26 = .ok (.getfield 22, 3) := by decide +kernel
theorem dX2_weigh_29 : decode cX2_weigh 29 = .ok (.iadd, 1) := by decide +kernel
theorem dX2_weigh_30 : decode cX2_weigh 30 = .ok (.invokestatic 86, 3) := by decide +kernel
theorem dX2_weigh_33 : decode cX2_weigh 33 = .ok (.istore 5, 2) := by decide +kernel
theorem dX2_weigh_35 : decode cX2_weigh 35 = .ok (.iload 4, 2) := by decide +kernel
theorem dX2_weigh_37 : decode cX2_weigh 37 = .ok (.istore 6, 2) := by decide +kernel
theorem dX2_weigh_39 : decode cX2_weigh 39 = .ok (.iload 6, 2) := by decide +kernel
theorem dX2_weigh_41 : decode cX2_weigh 41 = .ok (.iload 5, 2) := by decide +kernel
theorem dX2_weigh_43 : decode cX2_weigh 43 = .ok (.if_icmp .gt 30, 3) := by decide +kernel
theorem dX2_weigh_46 : decode cX2_weigh 46 = .ok (.aload_n 0, 1) := by decide +kernel
theorem dX2_weigh_47 : decode cX2_weigh 47 = .ok (.getfield 31, 3) := by decide +kernel
theorem dX2_weigh_50 : decode cX2_weigh 50 = .ok (.iload_n 1, 1) := by decide +kernel
theorem dX2_weigh_51 : decode cX2_weigh 51 = .ok (.iload_n 3, 1) := by decide +kernel
theorem dX2_weigh_52 : decode cX2_weigh 52 = .ok (.iload 6, 2) := by decide +kernel
theorem dX2_weigh_54 : decode cX2_weigh 54 = .ok (.invokestatic 82, 3) := by decide +kernel
theorem dX2_weigh_57 : decode cX2_weigh 57 = .ok (.aload_n 0, 1) := by decide +kernel
theorem dX2_weigh_58 : decode cX2_weigh 58 = .ok (.iload_n 1, 1) := by decide +kernel
theorem dX2_weigh_59 : decode cX2_weigh 59 = .ok (.iload_n 3, 1) := by decide +kernel
theorem dX2_weigh_60 : decode cX2_weigh 60 = .ok (.iload 6, 2) := by decide +kernel
theorem dX2_weigh_62 : decode cX2_weigh 62 = .ok (.iload_n 2, 1) := by decide +kernel
theorem dX2_weigh_63 : decode cX2_weigh 63 = .ok (.invokevirtual 89, 3) := by decide +kernel
theorem dX2_weigh_66 : decode cX2_weigh 66 = .ok (.iastore, 1) := by decide +kernel
theorem dX2_weigh_67 : decode cX2_weigh 67 = .ok (.iinc 6 1, 3) := by decide +kernel
theorem dX2_weigh_70 : decode cX2_weigh 70 = .ok (.goto (-31), 3) := by decide +kernel
theorem dX2_weigh_73 : decode cX2_weigh 73 = .ok (.iinc 3 1, 3) := by decide +kernel
theorem dX2_weigh_76 : decode cX2_weigh 76 = .ok (.goto (-73), 3) := by decide +kernel
theorem dX2_weigh_79 : decode cX2_weigh 79 = .ok (.return_, 1) := by decide +kernel
set_option maxRecDepth 20000 in
theorem ggX2_leastRest_X2_spot : GoodIn wsX2_leastRest wsX2_spot := goodIn_r _ [9] (by decide +kernel) (by decide +kernel)
set_option maxRecDepth 20000 in
theorem gX2_leastRest_X2_spot : GoodIn wsX2_leastRest (va_wsS RX2 82 yX2_spot wsX2_spot) := goodIn_app (goodIn_of _ (by decide +kernel)) ggX2_leastRest_X2_spot
set_option maxRecDepth 20000 in
theorem ggX2_leastRest_X2_highestAfter : GoodIn wsX2_leastRest wsX2_highestAfter := goodIn_r _ [13, 14, 15, 16, 17, 18, 19, 27, 28, 29, 30, 31, 32, 33, 34] (by decide +kernel) (by decide +kernel)
set_option maxRecDepth 20000 in
theorem gX2_leastRest_X2_highestAfter : GoodIn wsX2_leastRest (wsV RX2 93 RX2 yX2_highestAfter wsX2_highestAfter) := goodIn_app (goodIn_of _ (by decide +kernel)) ggX2_leastRest_X2_highestAfter
set_option maxRecDepth 20000 in
theorem ggX2_leastRest_X2_lowestAfter : GoodIn wsX2_leastRest wsX2_lowestAfter := goodIn_r _ [23, 14, 15, 24, 25, 18, 26, 27, 28, 29, 30, 31, 32, 33, 34] (by decide +kernel) (by decide +kernel)
set_option maxRecDepth 20000 in
theorem gX2_leastRest_X2_lowestAfter : GoodIn wsX2_leastRest (wsV RX2 96 RX2 yX2_lowestAfter wsX2_lowestAfter) := goodIn_app (goodIn_of _ (by decide +kernel)) ggX2_leastRest_X2_lowestAfter
theorem dX2_leastRest_0 : decode cX2_leastRest 0 = .ok (.ldc 92, 2) := by decide +kernel
theorem dX2_leastRest_2 : decode cX2_leastRest 2 = .ok (.istore 5, 2) := by decide +kernel
theorem dX2_leastRest_4 : decode cX2_leastRest 4 = .ok (.aload_n 0, 1) := by decide +kernel
theorem dX2_leastRest_5 : decode cX2_leastRest 5 = .ok (.getfield 9, 3) := by decide +kernel
theorem dX2_leastRest_8 : decode cX2_leastRest 8 = .ok (.iload_n 1, 1) := by decide +kernel
theorem dX2_leastRest_9 : decode cX2_leastRest 9 = .ok (.iaload, 1) := by decide +kernel
theorem dX2_leastRest_10 : decode cX2_leastRest 10 = .ok (.aload_n 0, 1) := by decide +kernel
theorem dX2_leastRest_11 : decode cX2_leastRest 11 = .ok (.getfield 28, 3) := by decide +kernel
theorem dX2_leastRest_14 : decode cX2_leastRest 14 = .ok (.iload_n 3, 1) := by decide +kernel
theorem dX2_leastRest_15 : decode cX2_leastRest 15 = .ok (.imul, 1) := by decide +kernel
theorem dX2_leastRest_16 : decode cX2_leastRest 16 = .ok (.iadd, 1) := by decide +kernel
theorem dX2_leastRest_17 : decode cX2_leastRest 17 = .ok (.aload_n 0, 1) := by decide +kernel
theorem dX2_leastRest_18 : decode cX2_leastRest 18 = .ok (.getfield 40, 3) := by decide +kernel
theorem dX2_leastRest_21 : decode cX2_leastRest 21 = .ok (.iload_n 2, 1) := by decide +kernel
theorem dX2_leastRest_22 : decode cX2_leastRest 22 = .ok (.imul, 1) := by decide +kernel
theorem dX2_leastRest_23 : decode cX2_leastRest 23 = .ok (.iadd, 1) := by decide +kernel
theorem dX2_leastRest_24 : decode cX2_leastRest 24 = .ok (.istore 6, 2) := by decide +kernel
theorem dX2_leastRest_26 : decode cX2_leastRest 26 = .ok (.iload_n 1, 1) := by decide +kernel
theorem dX2_leastRest_27 : decode cX2_leastRest 27 = .ok (.iconst 1, 1) := by decide +kernel
theorem dX2_leastRest_28 : decode cX2_leastRest 28 = .ok (.iadd, 1) := by decide +kernel
theorem dX2_leastRest_29 : decode cX2_leastRest 29 = .ok (.iload_n 3, 1) := by decide +kernel
theorem dX2_leastRest_30 : decode cX2_leastRest 30 = .ok (.iconst 0, 1) := by decide +kernel
theorem dX2_leastRest_31 : decode cX2_leastRest 31 = .ok (.invokestatic 82, 3) := by decide +kernel
theorem dX2_leastRest_34 : decode cX2_leastRest 34 = .ok (.istore 7, 2) := by decide +kernel
theorem dX2_leastRest_36 : decode cX2_leastRest 36 = .ok (.aload_n 0, 1) := by decide +kernel
theorem dX2_leastRest_37 : decode cX2_leastRest 37 = .ok (.iload_n 2, 1) := by decide +kernel
theorem dX2_leastRest_38 : decode cX2_leastRest 38 = .ok (.iload_n 3, 1) := by decide +kernel
theorem dX2_leastRest_39 : decode cX2_leastRest 39 = .ok (.invokevirtual 93, 3) := by decide +kernel
theorem dX2_leastRest_42 : decode cX2_leastRest 42 = .ok (.istore 8, 2) := by decide +kernel
theorem dX2_leastRest_44 : decode cX2_leastRest 44 = .ok (.aload_n 0, 1) := by decide +kernel
theorem dX2_leastRest_45 : decode cX2_leastRest 45 = .ok (.iload_n 2, 1) := by decide +kernel
theorem dX2_leastRest_46 : decode cX2_leastRest 46 = .ok (.iload_n 3, 1) := by decide +kernel
theorem dX2_leastRest_47 : decode cX2_leastRest 47 = .ok (.invokevirtual 96, 3) := by decide +kernel
theorem dX2_leastRest_50 : decode cX2_leastRest 50 = .ok (.istore 9, 2) := by decide +kernel
theorem dX2_leastRest_52 : decode cX2_leastRest 52 = .ok (.iload 9, 2) := by decide +kernel
theorem dX2_leastRest_54 : decode cX2_leastRest 54 = .ok (.iload 8, 2) := by decide +kernel
theorem dX2_leastRest_56 : decode cX2_leastRest 56 = .ok (.if_icmp .gt 88, 3) := by decide +kernel
theorem dX2_leastRest_59 : decode cX2_leastRest 59 = .ok (.iload 6, 2) := by decide +kernel
theorem dX2_leastRest_61 : decode cX2_leastRest 61 = .ok (.aload_n 0, 1) := by decide +kernel
theorem dX2_leastRest_62 : decode cX2_leastRest 62 = .ok (.getfield 40, 3) := by decide +kernel
theorem dX2_leastRest_65 : decode cX2_leastRest 65 = .ok (.iload 9, 2) := by decide +kernel
theorem dX2_leastRest_67 : decode cX2_leastRest 67 = .ok (.imul, 1) := by decide +kernel
theorem dX2_leastRest_68 : decode cX2_leastRest 68 = .ok (.iadd, 1) := by decide +kernel
theorem dX2_leastRest_69 : decode cX2_leastRest 69 = .ok (.istore 10, 2) := by decide +kernel
theorem dX2_leastRest_71 : decode cX2_leastRest 71 = .ok (.iload 10, 2) := by decide +kernel
theorem dX2_leastRest_73 : decode cX2_leastRest 73 = .ok (.ifCond .ge 9, 3) := by decide +kernel
theorem dX2_leastRest_76 : decode cX2_leastRest 76 = .ok (.iload 10, 2) := by decide +kernel
theorem dX2_leastRest_78 : decode cX2_leastRest 78 = .ok (.ineg, 1) := by decide +kernel
theorem dX2_leastRest_79 : decode cX2_leastRest 79 = .ok (.goto 5, 3) := by decide +kernel
theorem dX2_leastRest_82 : decode cX2_leastRest 82 = .ok (.iload 10, 2) := by decide +kernel
theorem dX2_leastRest_84 : decode cX2_leastRest 84 = .ok (.istore 11, 2) := by decide +kernel
theorem dX2_leastRest_86 : decode cX2_leastRest 86 = .ok (.aload_n 0, 1) := by decide +kernel
theorem dX2_leastRest_87 : decode cX2_leastRest 87 = .ok (.getfield 31, 3) := by decide +kernel
theorem dX2_leastRest_90 : decode cX2_leastRest 90 = .ok (.iload 7, 2) := by decide +kernel
theorem dX2_leastRest_92 : decode cX2_leastRest 92 = .ok (.iload 9, 2) := by decide +kernel
theorem dX2_leastRest_94 : decode cX2_leastRest 94 = .ok (.iadd, 1) := by decide +kernel
theorem dX2_leastRest_95 : decode cX2_leastRest 95 = .ok (.iaload, 1) := by decide +kernel
theorem dX2_leastRest_96 : decode cX2_leastRest 96 = .ok (.istore 12, 2) := by decide +kernel
theorem dX2_leastRest_98 : decode cX2_leastRest 98 = .ok (.iload 4, 2) := by decide +kernel
theorem dX2_leastRest_100 : decode cX2_leastRest 100 = .ok (.ifCond .eq 11, 3) := by decide +kernel
theorem dX2_leastRest_103 : decode cX2_leastRest 103 = .ok (.iload 11, 2) := by decide +kernel
theorem dX2_leastRest_105 : decode cX2_leastRest 105 = .ok (.iload 12, 2) := by decide +kernel
theorem dX2_leastRest_107 : decode cX2_leastRest 107 = .ok (.iadd, 1) := by decide +kernel
theorem dX2_leastRest_108 : decode cX2_leastRest 108 = .ok (.goto 17, 3) := by decide +kernel
theorem dX2_leastRest_111 : decode cX2_leastRest 111 = .ok (.iload 11, 2) := by decide +kernel
theorem dX2_leastRest_113 : decode cX2_leastRest 113 = .ok (.iload 12, 2) := by decide +kernel
theorem dX2_leastRest_115 : decode cX2_leastRest 115 = .ok (.if_icmp .le 8, 3) := by decide +kernel
theorem dX2_leastRest_118 : decode cX2_leastRest 118 = .ok (.iload 11, 2) := by decide +kernel
theorem dX2_leastRest_120 : decode cX2_leastRest 120 = .ok (.goto 5, 3) := by decide +kernel
theorem dX2_leastRest_123 : decode cX2_leastRest 123 = .ok (.iload 12, 2) := by decide +kernel
theorem dX2_leastRest_125 : decode cX2_leastRest 125 = .ok (.istore 13, 2) := by decide +kernel
theorem dX2_leastRest_127 : decode cX2_leastRest 127 = .ok (.iload 13, 2) := by decide +kernel
theorem dX2_leastRest_129 : decode cX2_leastRest 129 = .ok (.iload 5, 2) := by decide +kernel
theorem dX2_leastRest_131 : decode cX2_leastRest 131 = .ok (.if_icmp .ge 7, 3) := by decide +kernel
theorem dX2_leastRest_134 : decode cX2_leastRest 134 = .ok (.iload 13, 2) := by decide +kernel
theorem dX2_leastRest_136 : decode cX2_leastRest 136 = .ok (.istore 5, 2) := by decide +kernel
theorem dX2_leastRest_138 : decode cX2_leastRest 138 = .ok (.iinc 9 1, 3) := by decide +kernel
theorem dX2_leastRest_141 : decode cX2_leastRest 141 = .ok (.goto (-89), 3) := by decide +kernel
theorem dX2_leastRest_144 : decode cX2_leastRest 144 = .ok (.iload 5, 2) := by decide +kernel
theorem dX2_leastRest_146 : decode cX2_leastRest 146 = .ok (.ireturn, 1) := by decide +kernel
set_option maxRecDepth 20000 in
theorem ggX2_settleFirstTwo_X2_spot : GoodIn wsX2_settleFirstTwo wsX2_spot := goodIn_r _ [21] (by decide +kernel) (by decide +kernel)
set_option maxRecDepth 20000 in
theorem gX2_settleFirstTwo_X2_spot : GoodIn wsX2_settleFirstTwo (va_wsS RX2 82 yX2_spot wsX2_spot) := goodIn_app (goodIn_of _ (by decide +kernel)) ggX2_settleFirstTwo_X2_spot
set_option maxRecDepth 20000 in
theorem ggX2_settleFirstTwo_X2_together : GoodIn wsX2_settleFirstTwo wsX2_together := goodIn_r _ [24, 7, 8, 5, 9] (by decide +kernel) (by decide +kernel)
set_option maxRecDepth 20000 in
theorem gX2_settleFirstTwo_X2_together : GoodIn wsX2_settleFirstTwo (va_wsS RX2 59 yX2_together wsX2_together) := goodIn_app (goodIn_of _ (by decide +kernel)) ggX2_settleFirstTwo_X2_together
theorem dX2_settleFirstTwo_0 : decode cX2_settleFirstTwo 0 = .ok (.ldc 92, 2) := by decide +kernel
theorem dX2_settleFirstTwo_2 : decode cX2_settleFirstTwo 2 = .ok (.istore_n 2, 1) := by decide +kernel
theorem dX2_settleFirstTwo_3 : decode cX2_settleFirstTwo 3 = .ok (.bipush (-10), 2) := by decide +kernel
theorem dX2_settleFirstTwo_5 : decode cX2_settleFirstTwo 5 = .ok (.istore_n 3, 1) := by decide +kernel
theorem dX2_settleFirstTwo_6 : decode cX2_settleFirstTwo 6 = .ok (.iload_n 3, 1) := by decide +kernel
theorem dX2_settleFirstTwo_7 : decode cX2_settleFirstTwo 7 = .ok (.bipush 10, 2) := by decide +kernel
theorem dX2_settleFirstTwo_9 : decode cX2_settleFirstTwo 9 = .ok (.if_icmp .gt 118, 3) := by decide +kernel
theorem dX2_settleFirstTwo_12 : decode cX2_settleFirstTwo 12 = .ok (.bipush 10, 2) := by decide +kernel
theorem dX2_settleFirstTwo_14 : decode cX2_settleFirstTwo 14 = .ok (.iload_n 3, 1) := by decide +kernel
theorem dX2_settleFirstTwo_15 : decode cX2_settleFirstTwo 15 = .ok (.aload_n 0, 1) := by decide +kernel
theorem dX2_settleFirstTwo_16 : decode cX2_settleFirstTwo 16 = .ok (.getfield 22, 3) := by decide +kernel
theorem dX2_settleFirstTwo_19 : decode cX2_settleFirstTwo 19 = .ok (.iadd, 1) := by decide +kernel
theorem dX2_settleFirstTwo_20 : decode cX2_settleFirstTwo 20 = .ok (.invokestatic 86, 3) := by decide +kernel
theorem dX2_settleFirstTwo_23 : decode cX2_settleFirstTwo 23 = .ok (.istore 4, 2) := by decide +kernel
theorem dX2_settleFirstTwo_25 : decode cX2_settleFirstTwo 25 = .ok (.bipush (-10), 2) := by decide +kernel
theorem dX2_settleFirstTwo_27 : decode cX2_settleFirstTwo 27 = .ok (.iload_n 3, 1) := by decide +kernel
theorem dX2_settleFirstTwo_28 : decode cX2_settleFirstTwo 28 = .ok (.aload_n 0, 1) := by decide +kernel
theorem dX2_settleFirstTwo_29 : decode cX2_settleFirstTwo 29 = .ok (.getfield 22, 3) := by decide +kernel
theorem dX2_settleFirstTwo_32 : decode cX2_settleFirstTwo 32 = .ok (.isub, 1) := by decide +kernel
theorem dX2_settleFirstTwo_33 : decode cX2_settleFirstTwo 33 = .ok (.invokestatic 63, 3) := by decide +kernel
theorem dX2_settleFirstTwo_36 : decode cX2_settleFirstTwo 36 = .ok (.istore 5, 2) := by decide +kernel
theorem dX2_settleFirstTwo_38 : decode cX2_settleFirstTwo 38 = .ok (.iload 5, 2) := by decide +kernel
theorem dX2_settleFirstTwo_40 : decode cX2_settleFirstTwo 40 = .ok (.iload 4, 2) := by decide +kernel
theorem dX2_settleFirstTwo_42 : decode cX2_settleFirstTwo 42 = .ok (.if_icmp .gt 79, 3) := by decide +kernel
theorem dX2_settleFirstTwo_45 : decode cX2_settleFirstTwo 45 = .ok (.aload_n 0, 1) := by decide +kernel
theorem dX2_settleFirstTwo_46 : decode cX2_settleFirstTwo 46 = .ok (.getfield 9, 3) := by decide +kernel
theorem dX2_settleFirstTwo_49 : decode cX2_settleFirstTwo 49 = .ok (.iconst 0, 1) := by decide +kernel
theorem dX2_settleFirstTwo_50 : decode cX2_settleFirstTwo 50 = .ok (.iaload, 1) := by decide +kernel
theorem dX2_settleFirstTwo_51 : decode cX2_settleFirstTwo 51 = .ok (.aload_n 0, 1) := by decide +kernel
theorem dX2_settleFirstTwo_52 : decode cX2_settleFirstTwo 52 = .ok (.getfield 28, 3) := by decide +kernel
theorem dX2_settleFirstTwo_55 : decode cX2_settleFirstTwo 55 = .ok (.iload_n 3, 1) := by decide +kernel
theorem dX2_settleFirstTwo_56 : decode cX2_settleFirstTwo 56 = .ok (.imul, 1) := by decide +kernel
theorem dX2_settleFirstTwo_57 : decode cX2_settleFirstTwo 57 = .ok (.iadd, 1) := by decide +kernel
theorem dX2_settleFirstTwo_58 : decode cX2_settleFirstTwo 58 = .ok (.aload_n 0, 1) := by decide +kernel
theorem dX2_settleFirstTwo_59 : decode cX2_settleFirstTwo 59 = .ok (.getfield 40, 3) := by decide +kernel
theorem dX2_settleFirstTwo_62 : decode cX2_settleFirstTwo 62 = .ok (.iload 5, 2) := by decide +kernel
theorem dX2_settleFirstTwo_64 : decode cX2_settleFirstTwo 64 = .ok (.imul, 1) := by decide +kernel
theorem dX2_settleFirstTwo_65 : decode cX2_settleFirstTwo 65 = .ok (.iadd, 1) := by decide +kernel
theorem dX2_settleFirstTwo_66 : decode cX2_settleFirstTwo 66 = .ok (.invokestatic 47, 3) := by decide +kernel
theorem dX2_settleFirstTwo_69 : decode cX2_settleFirstTwo 69 = .ok (.istore 6, 2) := by decide +kernel
theorem dX2_settleFirstTwo_71 : decode cX2_settleFirstTwo 71 = .ok (.iload 6, 2) := by decide +kernel
theorem dX2_settleFirstTwo_73 : decode cX2_settleFirstTwo 73 = .ok (.aload_n 0, 1) := by decide +kernel
theorem dX2_settleFirstTwo_74 : decode cX2_settleFirstTwo 74 = .ok (.getfield 31, 3) := by decide +kernel
theorem dX2_settleFirstTwo_77 : decode cX2_settleFirstTwo 77 = .ok (.iconst 1, 1) := by decide +kernel
theorem dX2_settleFirstTwo_78 : decode cX2_settleFirstTwo 78 = .ok (.iload_n 3, 1) := by decide +kernel
theorem dX2_settleFirstTwo_79 : decode cX2_settleFirstTwo 79 = .ok (.iload 5, 2) := by decide +kernel
theorem dX2_settleFirstTwo_81 : decode cX2_settleFirstTwo 81 = .ok (.invokestatic 82, 3) := by decide +kernel
theorem dX2_settleFirstTwo_84 : decode cX2_settleFirstTwo 84 = .ok (.iaload, 1) := by decide +kernel
theorem dX2_settleFirstTwo_85 : decode cX2_settleFirstTwo 85 = .ok (.iload_n 1, 1) := by decide +kernel
theorem dX2_settleFirstTwo_86 : decode cX2_settleFirstTwo 86 = .ok (.invokestatic 59, 3) := by decide +kernel
theorem dX2_settleFirstTwo_89 : decode cX2_settleFirstTwo 89 = .ok (.istore 7, 2) := by decide +kernel
theorem dX2_settleFirstTwo_91 : decode cX2_settleFirstTwo 91 = .ok (.iload 7, 2) := by decide +kernel
theorem dX2_settleFirstTwo_93 : decode cX2_settleFirstTwo 93 = .ok (.iload_n 2, 1) := by decide +kernel
theorem dX2_settleFirstTwo_94 : decode cX2_settleFirstTwo 94 = .ok (.if_icmp .ge 21, 3) := by decide +kernel
theorem dX2_settleFirstTwo_97 : decode cX2_settleFirstTwo 97 = .ok (.iload 7, 2) := by decide +kernel
theorem dX2_settleFirstTwo_99 : decode cX2_settleFirstTwo 99 = .ok (.istore_n 2, 1) := by decide +kernel
theorem dX2_settleFirstTwo_100 : decode cX2_settleFirstTwo 100 = .ok (.aload_n 0, 1) := by decide +kernel
theorem dX2_settleFirstTwo_101 : decode cX2_settleFirstTwo 101 = .ok (.getfield 15, 3) := by decide +kernel
theorem dX2_settleFirstTwo_104 : decode cX2_settleFirstTwo 104 = .ok (.iconst 0, 1) := by decide +kernel
theorem dX2_settleFirstTwo_105 : decode cX2_settleFirstTwo 105 = .ok (.iload_n 3, 1) := by decide +kernel
theorem dX2_settleFirstTwo_106 : decode cX2_settleFirstTwo 106 = .ok (.iastore, 1) := by decide +kernel
theorem dX2_settleFirstTwo_107 : decode cX2_settleFirstTwo 107 = .ok (.aload_n 0, 1) := by decide +kernel
theorem dX2_settleFirstTwo_108 : decode cX2_settleFirstTwo 108 = .ok (.getfield 15, 3) := by decide +kernel
theorem dX2_settleFirstTwo_111 : decode cX2_settleFirstTwo 111 = .ok (.iconst 1, 1) := by decide +kernel
theorem dX2_settleFirstTwo_112 : decode cX2_settleFirstTwo 112 = .ok (.iload 5, 2) := by decide +kernel
theorem dX2_settleFirstTwo_114 : decode cX2_settleFirstTwo 114 = .ok (.iastore, 1) := by decide +kernel
theorem dX2_settleFirstTwo_115 : decode cX2_settleFirstTwo 115 = .ok (.iinc 5 1, 3) := by decide +kernel
theorem dX2_settleFirstTwo_118 : decode cX2_settleFirstTwo 118 = .ok (.goto (-80), 3) := by decide +kernel
theorem dX2_settleFirstTwo_121 : decode cX2_settleFirstTwo 121 = .ok (.iinc 3 1, 3) := by decide +kernel
theorem dX2_settleFirstTwo_124 : decode cX2_settleFirstTwo 124 = .ok (.goto (-118), 3) := by decide +kernel
theorem dX2_settleFirstTwo_127 : decode cX2_settleFirstTwo 127 = .ok (.iload_n 2, 1) := by decide +kernel
theorem dX2_settleFirstTwo_128 : decode cX2_settleFirstTwo 128 = .ok (.ireturn, 1) := by decide +kernel
set_option maxRecDepth 20000 in
theorem ggX2_lesserAfter_X2_spot : GoodIn wsX2_lesserAfter wsX2_spot := goodIn_r _ [13] (by decide +kernel) (by decide +kernel)
set_option maxRecDepth 20000 in
theorem gX2_lesserAfter_X2_spot : GoodIn wsX2_lesserAfter (va_wsS RX2 82 yX2_spot wsX2_spot) := goodIn_app (goodIn_of _ (by decide +kernel)) ggX2_lesserAfter_X2_spot
set_option maxRecDepth 20000 in
theorem ggX2_lesserAfter_X2_highestAfter : GoodIn wsX2_lesserAfter wsX2_highestAfter := goodIn_r _ [17, 18, 19, 20, 21, 7, 22, 33, 34, 35, 36, 37, 38, 39, 40] (by decide +kernel) (by decide +kernel)
set_option maxRecDepth 20000 in
theorem gX2_lesserAfter_X2_highestAfter : GoodIn wsX2_lesserAfter (wsV RX2 93 RX2 yX2_highestAfter wsX2_highestAfter) := goodIn_app (goodIn_of _ (by decide +kernel)) ggX2_lesserAfter_X2_highestAfter
set_option maxRecDepth 20000 in
theorem ggX2_lesserAfter_X2_lowestAfter : GoodIn wsX2_lesserAfter wsX2_lowestAfter := goodIn_r _ [26, 18, 19, 27, 28, 7, 29, 33, 34, 35, 36, 37, 38, 39, 40] (by decide +kernel) (by decide +kernel)
set_option maxRecDepth 20000 in
theorem gX2_lesserAfter_X2_lowestAfter : GoodIn wsX2_lesserAfter (wsV RX2 96 RX2 yX2_lowestAfter wsX2_lowestAfter) := goodIn_app (goodIn_of _ (by decide +kernel)) ggX2_lesserAfter_X2_lowestAfter
set_option maxRecDepth 20000 in
theorem ggX2_lesserAfter_X2_together : GoodIn wsX2_lesserAfter wsX2_together := goodIn_r _ [32, 27, 28, 7, 29] (by decide +kernel) (by decide +kernel)
set_option maxRecDepth 20000 in
theorem gX2_lesserAfter_X2_together : GoodIn wsX2_lesserAfter (va_wsS RX2 59 yX2_together wsX2_together) := goodIn_app (goodIn_of _ (by decide +kernel)) ggX2_lesserAfter_X2_together
theorem dX2_lesserAfter_0 : decode cX2_lesserAfter 0 = .ok (.aload_n 0, 1) := by decide +kernel
theorem dX2_lesserAfter_1 : decode cX2_lesserAfter 1 = .ok (.getfield 15, 3) := by decide +kernel
theorem dX2_lesserAfter_4 : decode cX2_lesserAfter 4 = .ok (.iload_n 1, 1) := by decide +kernel
theorem dX2_lesserAfter_5 : decode cX2_lesserAfter 5 = .ok (.iconst 1, 1) := by decide +kernel
theorem dX2_lesserAfter_6 : decode cX2_lesserAfter 6 = .ok (.isub, 1) := by decide +kernel
theorem dX2_lesserAfter_7 : decode cX2_lesserAfter 7 = .ok (.iaload, 1) := by decide +kernel
theorem dX2_lesserAfter_8 : decode cX2_lesserAfter 8 = .ok (.istore 5, 2) := by decide +kernel
theorem dX2_lesserAfter_10 : decode cX2_lesserAfter 10 = .ok (.aload_n 0, 1) := by decide +kernel
theorem dX2_lesserAfter_11 : decode cX2_lesserAfter 11 = .ok (.getfield 15, 3) := by decide +kernel
theorem dX2_lesserAfter_14 : decode cX2_lesserAfter 14 = .ok (.iload_n 1, 1) := by decide +kernel
theorem dX2_lesserAfter_15 : decode cX2_lesserAfter 15 = .ok (.iaload, 1) := by decide +kernel
theorem dX2_lesserAfter_16 : decode cX2_lesserAfter 16 = .ok (.istore 6, 2) := by decide +kernel
theorem dX2_lesserAfter_18 : decode cX2_lesserAfter 18 = .ok (.aload_n 0, 1) := by decide +kernel
theorem dX2_lesserAfter_19 : decode cX2_lesserAfter 19 = .ok (.getfield 9, 3) := by decide +kernel
theorem dX2_lesserAfter_22 : decode cX2_lesserAfter 22 = .ok (.iload_n 1, 1) := by decide +kernel
theorem dX2_lesserAfter_23 : decode cX2_lesserAfter 23 = .ok (.iaload, 1) := by decide +kernel
theorem dX2_lesserAfter_24 : decode cX2_lesserAfter 24 = .ok (.aload_n 0, 1) := by decide +kernel
theorem dX2_lesserAfter_25 : decode cX2_lesserAfter 25 = .ok (.getfield 28, 3) := by decide +kernel
theorem dX2_lesserAfter_28 : decode cX2_lesserAfter 28 = .ok (.iload 6, 2) := by decide +kernel
theorem dX2_lesserAfter_30 : decode cX2_lesserAfter 30 = .ok (.imul, 1) := by decide +kernel
theorem dX2_lesserAfter_31 : decode cX2_lesserAfter 31 = .ok (.iadd, 1) := by decide +kernel
theorem dX2_lesserAfter_32 : decode cX2_lesserAfter 32 = .ok (.aload_n 0, 1) := by decide +kernel
theorem dX2_lesserAfter_33 : decode cX2_lesserAfter 33 = .ok (.getfield 40, 3) := by decide +kernel
theorem dX2_lesserAfter_36 : decode cX2_lesserAfter 36 = .ok (.iload 5, 2) := by decide +kernel
theorem dX2_lesserAfter_38 : decode cX2_lesserAfter 38 = .ok (.imul, 1) := by decide +kernel
theorem dX2_lesserAfter_39 : decode cX2_lesserAfter 39 = .ok (.iadd, 1) := by decide +kernel
theorem dX2_lesserAfter_40 : decode cX2_lesserAfter 40 = .ok (.istore 7, 2) := by decide +kernel
theorem dX2_lesserAfter_42 : decode cX2_lesserAfter 42 = .ok (.iload_n 1, 1) := by decide +kernel
theorem dX2_lesserAfter_43 : decode cX2_lesserAfter 43 = .ok (.iconst 1, 1) := by decide +kernel
theorem dX2_lesserAfter_44 : decode cX2_lesserAfter 44 = .ok (.iadd, 1) := by decide +kernel
theorem dX2_lesserAfter_45 : decode cX2_lesserAfter 45 = .ok (.iload 6, 2) := by decide +kernel
theorem dX2_lesserAfter_47 : decode cX2_lesserAfter 47 = .ok (.iconst 0, 1) := by decide +kernel
theorem dX2_lesserAfter_48 : decode cX2_lesserAfter 48 = .ok (.invokestatic 82, 3) := by decide +kernel
theorem dX2_lesserAfter_51 : decode cX2_lesserAfter 51 = .ok (.istore 8, 2) := by decide +kernel
theorem dX2_lesserAfter_53 : decode cX2_lesserAfter 53 = .ok (.aload_n 0, 1) := by decide +kernel
theorem dX2_lesserAfter_54 : decode cX2_lesserAfter 54 = .ok (.iload 5, 2) := by decide +kernel
theorem dX2_lesserAfter_56 : decode cX2_lesserAfter 56 = .ok (.iload 6, 2) := by decide +kernel
theorem dX2_lesserAfter_58 : decode cX2_lesserAfter 58 = .ok (.invokevirtual 93, 3) := by decide +kernel
theorem dX2_lesserAfter_61 : decode cX2_lesserAfter 61 = .ok (.istore 9, 2) := by decide +kernel
theorem dX2_lesserAfter_63 : decode cX2_lesserAfter 63 = .ok (.aload_n 0, 1) := by decide +kernel
theorem dX2_lesserAfter_64 : decode cX2_lesserAfter 64 = .ok (.iload 5, 2) := by decide +kernel
theorem dX2_lesserAfter_66 : decode cX2_lesserAfter 66 = .ok (.iload 6, 2) := by decide +kernel
theorem dX2_lesserAfter_68 : decode cX2_lesserAfter 68 = .ok (.invokevirtual 96, 3) := by decide +kernel
theorem dX2_lesserAfter_71 : decode cX2_lesserAfter 71 = .ok (.istore 10, 2) := by decide +kernel
theorem dX2_lesserAfter_73 : decode cX2_lesserAfter 73 = .ok (.iload 10, 2) := by decide +kernel
theorem dX2_lesserAfter_75 : decode cX2_lesserAfter 75 = .ok (.iload 9, 2) := by decide +kernel
theorem dX2_lesserAfter_77 : decode cX2_lesserAfter 77 = .ok (.if_icmp .ge 54, 3) := by decide +kernel
theorem dX2_lesserAfter_80 : decode cX2_lesserAfter 80 = .ok (.iload_n 2, 1) := by decide +kernel
theorem dX2_lesserAfter_81 : decode cX2_lesserAfter 81 = .ok (.iload 7, 2) := by decide +kernel
theorem dX2_lesserAfter_83 : decode cX2_lesserAfter 83 = .ok (.aload_n 0, 1) := by decide +kernel
theorem dX2_lesserAfter_84 : decode cX2_lesserAfter 84 = .ok (.getfield 40, 3) := by decide +kernel
theorem dX2_lesserAfter_87 : decode cX2_lesserAfter 87 = .ok (.iload 10, 2) := by decide +kernel
theorem dX2_lesserAfter_89 : decode cX2_lesserAfter 89 = .ok (.imul, 1) := by decide +kernel
theorem dX2_lesserAfter_90 : decode cX2_lesserAfter 90 = .ok (.iadd, 1) := by decide +kernel
theorem dX2_lesserAfter_91 : decode cX2_lesserAfter 91 = .ok (.invokestatic 47, 3) := by decide +kernel
theorem dX2_lesserAfter_94 : decode cX2_lesserAfter 94 = .ok (.iload 4, 2) := by decide +kernel
theorem dX2_lesserAfter_96 : decode cX2_lesserAfter 96 = .ok (.invokestatic 59, 3) := by decide +kernel
theorem dX2_lesserAfter_99 : decode cX2_lesserAfter 99 = .ok (.istore 11, 2) := by decide +kernel
theorem dX2_lesserAfter_101 : decode cX2_lesserAfter 101 = .ok (.iload 11, 2) := by decide +kernel
theorem dX2_lesserAfter_103 : decode cX2_lesserAfter 103 = .ok (.aload_n 0, 1) := by decide +kernel
theorem dX2_lesserAfter_104 : decode cX2_lesserAfter 104 = .ok (.getfield 31, 3) := by decide +kernel
theorem dX2_lesserAfter_107 : decode cX2_lesserAfter 107 = .ok (.iload 8, 2) := by decide +kernel
theorem dX2_lesserAfter_109 : decode cX2_lesserAfter 109 = .ok (.iload 10, 2) := by decide +kernel
theorem dX2_lesserAfter_111 : decode cX2_lesserAfter 111 = .ok (.iadd, 1) := by decide +kernel
theorem dX2_lesserAfter_112 : decode cX2_lesserAfter 112 = .ok (.iaload, 1) := by decide +kernel
theorem dX2_lesserAfter_113 : decode cX2_lesserAfter 113 = .ok (.iload 4, 2) := by decide +kernel
theorem dX2_lesserAfter_115 : decode cX2_lesserAfter 115 = .ok (.invokestatic 59, 3) := by decide +kernel
theorem dX2_lesserAfter_118 : decode cX2_lesserAfter 118 = .ok (.iload_n 3, 1) := by decide +kernel
theorem dX2_lesserAfter_119 : decode cX2_lesserAfter 119 = .ok (.if_icmp .gt 6, 3) := by decide +kernel
theorem dX2_lesserAfter_122 : decode cX2_lesserAfter 122 = .ok (.iload 10, 2) := by decide +kernel
theorem dX2_lesserAfter_124 : decode cX2_lesserAfter 124 = .ok (.ireturn, 1) := by decide +kernel
theorem dX2_lesserAfter_125 : decode cX2_lesserAfter 125 = .ok (.iinc 10 1, 3) := by decide +kernel
end
section
theorem dX2_lesserAfter_128 : decode cX2_lesserAfter 128 = .ok (.goto (-55), 3) := by decide +kernel
theorem dX2_lesserAfter_131 : decode cX2_lesserAfter 131 = .ok (.iload 9, 2) := by decide +kernel
theorem dX2_lesserAfter_133 : decode cX2_lesserAfter 133 = .ok (.ireturn, 1) := by decide +kernel
theorem dX2_lowestAfter_0 : decode cX2_lowestAfter 0 = .ok (.bipush (-10), 2) := by decide +kernel
theorem dX2_lowestAfter_2 : decode cX2_lowestAfter 2 = .ok (.iload_n 2, 1) := by decide +kernel
theorem dX2_lowestAfter_3 : decode cX2_lowestAfter 3 = .ok (.aload_n 0, 1) := by decide +kernel
theorem dX2_lowestAfter_4 : decode cX2_lowestAfter 4 = .ok (.getfield 22, 3) := by decide +kernel
theorem dX2_lowestAfter_7 : decode cX2_lowestAfter 7 = .ok (.isub, 1) := by decide +kernel
theorem dX2_lowestAfter_8 : decode cX2_lowestAfter 8 = .ok (.iconst 2, 1) := by decide +kernel
theorem dX2_lowestAfter_9 : decode cX2_lowestAfter 9 = .ok (.iload_n 2, 1) := by decide +kernel
theorem dX2_lowestAfter_10 : decode cX2_lowestAfter 10 = .ok (.imul, 1) := by decide +kernel
theorem dX2_lowestAfter_11 : decode cX2_lowestAfter 11 = .ok (.iload_n 1, 1) := by decide +kernel
theorem dX2_lowestAfter_12 : decode cX2_lowestAfter 12 = .ok (.isub, 1) := by decide +kernel
theorem dX2_lowestAfter_13 : decode cX2_lowestAfter 13 = .ok (.aload_n 0, 1) := by decide +kernel
theorem dX2_lowestAfter_14 : decode cX2_lowestAfter 14 = .ok (.getfield 25, 3) := by decide +kernel
theorem dX2_lowestAfter_17 : decode cX2_lowestAfter 17 = .ok (.isub, 1) := by decide +kernel
theorem dX2_lowestAfter_18 : decode cX2_lowestAfter 18 = .ok (.invokestatic 63, 3) := by decide +kernel
theorem dX2_lowestAfter_21 : decode cX2_lowestAfter 21 = .ok (.invokestatic 63, 3) := by decide +kernel
theorem dX2_lowestAfter_24 : decode cX2_lowestAfter 24 = .ok (.ireturn, 1) := by decide +kernel
theorem dX2_highestAfter_0 : decode cX2_highestAfter 0 = .ok (.bipush 10, 2) := by decide +kernel
theorem dX2_highestAfter_2 : decode cX2_highestAfter 2 = .ok (.iload_n 2, 1) := by decide +kernel
theorem dX2_highestAfter_3 : decode cX2_highestAfter 3 = .ok (.aload_n 0, 1) := by decide +kernel
theorem dX2_highestAfter_4 : decode cX2_highestAfter 4 = .ok (.getfield 22, 3) := by decide +kernel
theorem dX2_highestAfter_7 : decode cX2_highestAfter 7 = .ok (.iadd, 1) := by decide +kernel
theorem dX2_highestAfter_8 : decode cX2_highestAfter 8 = .ok (.iconst 2, 1) := by decide +kernel
theorem dX2_highestAfter_9 : decode cX2_highestAfter 9 = .ok (.iload_n 2, 1) := by decide +kernel
theorem dX2_highestAfter_10 : decode cX2_highestAfter 10 = .ok (.imul, 1) := by decide +kernel
theorem dX2_highestAfter_11 : decode cX2_highestAfter 11 = .ok (.iload_n 1, 1) := by decide +kernel
theorem dX2_highestAfter_12 : decode cX2_highestAfter 12 = .ok (.isub, 1) := by decide +kernel
theorem dX2_highestAfter_13 : decode cX2_highestAfter 13 = .ok (.aload_n 0, 1) := by decide +kernel
theorem dX2_highestAfter_14 : decode cX2_highestAfter 14 = .ok (.getfield 25, 3) := by decide +kernel
theorem dX2_highestAfter_17 : decode cX2_highestAfter 17 = .ok (.iadd, 1) := by decide +kernel
theorem dX2_highestAfter_18 : decode cX2_highestAfter 18 = .ok (.invokestatic 86, 3) := by decide +kernel
theorem dX2_highestAfter_21 : decode cX2_highestAfter 21 = .ok (.invokestatic 86, 3) := by decide +kernel
theorem dX2_highestAfter_24 : decode cX2_highestAfter 24 = .ok (.ireturn, 1) := by decide +kernel
theorem dX2_spot_0 : decode cX2_spot 0 = .ok (.iload_n 0, 1) := by decide +kernel
theorem dX2_spot_1 : decode cX2_spot 1 = .ok (.bipush 21, 2) := by decide +kernel
theorem dX2_spot_3 : decode cX2_spot 3 = .ok (.imul, 1) := by decide +kernel
theorem dX2_spot_4 : decode cX2_spot 4 = .ok (.iload_n 1, 1) := by decide +kernel
theorem dX2_spot_5 : decode cX2_spot 5 = .ok (.iadd, 1) := by decide +kernel
theorem dX2_spot_6 : decode cX2_spot 6 = .ok (.bipush 10, 2) := by decide +kernel
theorem dX2_spot_8 : decode cX2_spot 8 = .ok (.iadd, 1) := by decide +kernel
theorem dX2_spot_9 : decode cX2_spot 9 = .ok (.bipush 21, 2) := by decide +kernel
theorem dX2_spot_11 : decode cX2_spot 11 = .ok (.imul, 1) := by decide +kernel
theorem dX2_spot_12 : decode cX2_spot 12 = .ok (.iload_n 2, 1) := by decide +kernel
theorem dX2_spot_13 : decode cX2_spot 13 = .ok (.iadd, 1) := by decide +kernel
theorem dX2_spot_14 : decode cX2_spot 14 = .ok (.bipush 10, 2) := by decide +kernel
theorem dX2_spot_16 : decode cX2_spot 16 = .ok (.iadd, 1) := by decide +kernel
theorem dX2_spot_17 : decode cX2_spot 17 = .ok (.ireturn, 1) := by decide +kernel
end
section
theorem dX3_init_0 : decode cX3_init 0 = .ok (.aload_n 0, 1) := by decide +kernel
theorem dX3_init_1 : decode cX3_init 1 = .ok (.invokespecial 3, 3) := by decide +kernel
theorem dX3_init_4 : decode cX3_init 4 = .ok (.aload_n 0, 1) := by decide +kernel
theorem dX3_init_5 : decode cX3_init 5 = .ok (.iconst 4, 1) := by decide +kernel
theorem dX3_init_6 : decode cX3_init 6 = .ok (.newarray .int, 2) := by decide +kernel
theorem dX3_init_8 : decode cX3_init 8 = .ok (.putfield 9, 3) := by decide +kernel
theorem dX3_init_11 : decode cX3_init 11 = .ok (.aload_n 0, 1) := by decide +kernel
theorem dX3_init_12 : decode cX3_init 12 = .ok (.iconst 4, 1) := by decide +kernel
theorem dX3_init_13 : decode cX3_init 13 = .ok (.newarray .int, 2) := by decide +kernel
theorem dX3_init_15 : decode cX3_init 15 = .ok (.putfield 15, 3) := by decide +kernel
theorem dX3_init_18 : decode cX3_init 18 = .ok (.aload_n 0, 1) := by decide +kernel
theorem dX3_init_19 : decode cX3_init 19 = .ok (.iconst 4, 1) := by decide +kernel
theorem dX3_init_20 : decode cX3_init 20 = .ok (.newarray .int, 2) := by decide +kernel
theorem dX3_init_22 : decode cX3_init 22 = .ok (.putfield 18, 3) := by decide +kernel
theorem dX3_init_25 : decode cX3_init 25 = .ok (.aload_n 0, 1) := by decide +kernel
theorem dX3_init_26 : decode cX3_init 26 = .ok (.bipush 25, 2) := by decide +kernel
theorem dX3_init_28 : decode cX3_init 28 = .ok (.newarray .int, 2) := by decide +kernel
theorem dX3_init_30 : decode cX3_init 30 = .ok (.putfield 21, 3) := by decide +kernel
theorem dX3_init_33 : decode cX3_init 33 = .ok (.aload_n 0, 1) := by decide +kernel
theorem dX3_init_34 : decode cX3_init 34 = .ok (.bipush 24, 2) := by decide +kernel
theorem dX3_init_36 : decode cX3_init 36 = .ok (.newarray .int, 2) := by decide +kernel
theorem dX3_init_38 : decode cX3_init 38 = .ok (.putfield 24, 3) := by decide +kernel
theorem dX3_init_41 : decode cX3_init 41 = .ok (.aload_n 0, 1) := by decide +kernel
theorem dX3_init_42 : decode cX3_init 42 = .ok (.aload_n 1, 1) := by decide +kernel
theorem dX3_init_43 : decode cX3_init 43 = .ok (.putfield 27, 3) := by decide +kernel
theorem dX3_init_46 : decode cX3_init 46 = .ok (.return_, 1) := by decide +kernel
theorem dX3_forget_0 : decode cX3_forget 0 = .ok (.aload_n 0, 1) := by decide +kernel
theorem dX3_forget_1 : decode cX3_forget 1 = .ok (.iconst 0, 1) := by decide +kernel
theorem dX3_forget_2 : decode cX3_forget 2 = .ok (.putfield 31, 3) := by decide +kernel
theorem dX3_forget_5 : decode cX3_forget 5 = .ok (.return_, 1) := by decide +kernel
theorem dX3_count_0 : decode cX3_count 0 = .ok (.aload_n 0, 1) := by decide +kernel
theorem dX3_count_1 : decode cX3_count 1 = .ok (.getfield 31, 3) := by decide +kernel
theorem dX3_count_4 : decode cX3_count 4 = .ok (.ireturn, 1) := by decide +kernel
theorem dX3_add_0 : decode cX3_add 0 = .ok (.aload_n 0, 1) := by decide +kernel
theorem dX3_add_1 : decode cX3_add 1 = .ok (.getfield 9, 3) := by decide +kernel
theorem dX3_add_4 : decode cX3_add 4 = .ok (.aload_n 0, 1) := by decide +kernel
theorem dX3_add_5 : decode cX3_add 5 = .ok (.getfield 31, 3) := by decide +kernel
theorem dX3_add_8 : decode cX3_add 8 = .ok (.iload_n 1, 1) := by decide +kernel
theorem dX3_add_9 : decode cX3_add 9 = .ok (.iastore, 1) := by decide +kernel
theorem dX3_add_10 : decode cX3_add 10 = .ok (.aload_n 0, 1) := by decide +kernel
theorem dX3_add_11 : decode cX3_add 11 = .ok (.getfield 15, 3) := by decide +kernel
theorem dX3_add_14 : decode cX3_add 14 = .ok (.aload_n 0, 1) := by decide +kernel
theorem dX3_add_15 : decode cX3_add 15 = .ok (.getfield 31, 3) := by decide +kernel
theorem dX3_add_18 : decode cX3_add 18 = .ok (.iload_n 2, 1) := by decide +kernel
theorem dX3_add_19 : decode cX3_add 19 = .ok (.iastore, 1) := by decide +kernel
theorem dX3_add_20 : decode cX3_add 20 = .ok (.aload_n 0, 1) := by decide +kernel
theorem dX3_add_21 : decode cX3_add 21 = .ok (.getfield 18, 3) := by decide +kernel
theorem dX3_add_24 : decode cX3_add 24 = .ok (.aload_n 0, 1) := by decide +kernel
theorem dX3_add_25 : decode cX3_add 25 = .ok (.getfield 31, 3) := by decide +kernel
theorem dX3_add_28 : decode cX3_add 28 = .ok (.iload_n 3, 1) := by decide +kernel
theorem dX3_add_29 : decode cX3_add 29 = .ok (.iastore, 1) := by decide +kernel
theorem dX3_add_30 : decode cX3_add 30 = .ok (.aload_n 0, 1) := by decide +kernel
theorem dX3_add_31 : decode cX3_add 31 = .ok (.dup, 1) := by decide +kernel
theorem dX3_add_32 : decode cX3_add 32 = .ok (.getfield 31, 3) := by decide +kernel
theorem dX3_add_35 : decode cX3_add 35 = .ok (.iconst 1, 1) := by decide +kernel
theorem dX3_add_36 : decode cX3_add 36 = .ok (.iadd, 1) := by decide +kernel
theorem dX3_add_37 : decode cX3_add 37 = .ok (.putfield 31, 3) := by decide +kernel
theorem dX3_add_40 : decode cX3_add 40 = .ok (.aload_n 0, 1) := by decide +kernel
theorem dX3_add_41 : decode cX3_add 41 = .ok (.getfield 31, 3) := by decide +kernel
theorem dX3_add_44 : decode cX3_add 44 = .ok (.iconst 1, 1) := by decide +kernel
theorem dX3_add_45 : decode cX3_add 45 = .ok (.isub, 1) := by decide +kernel
theorem dX3_add_46 : decode cX3_add 46 = .ok (.ireturn, 1) := by decide +kernel
set_option maxRecDepth 20000 in
theorem ggX3_lies_X2_places : GoodIn wsX3_lies wsX2_places := goodIn_r _ [8, 9, 33, 34, 35, 36, 37, 38, 39, 40] (by decide +kernel) (by decide +kernel)
set_option maxRecDepth 20000 in
theorem gX3_lies_X2_places : GoodIn wsX3_lies (wsV RX3 35 RX2 yX2_places wsX2_places) := goodIn_app (goodIn_of _ (by decide +kernel)) ggX3_lies_X2_places
set_option maxRecDepth 20000 in
theorem ggX3_lies_X2_sizeOf : GoodIn wsX3_lies wsX2_sizeOf := goodIn_r _ [13, 14, 15, 16, 17, 18, 19, 20, 7, 21, 22, 23, 24, 25, 9, 33, 34, 35, 36, 37, 38, 39, 40] (by decide +kernel) (by decide +kernel)
set_option maxRecDepth 20000 in
theorem gX3_lies_X2_sizeOf : GoodIn wsX3_lies (wsV RX3 41 RX2 yX2_sizeOf wsX2_sizeOf) := goodIn_app (goodIn_of _ (by decide +kernel)) ggX3_lies_X2_sizeOf
theorem dX3_lies_0 : decode cX3_lies 0 = .ok (.iload_n 2, 1) := by decide +kernel
theorem dX3_lies_1 : decode cX3_lies 1 = .ok (.aload_n 0, 1) := by decide +kernel
theorem dX3_lies_2 : decode cX3_lies 2 = .ok (.getfield 9, 3) := by decide +kernel
theorem dX3_lies_5 : decode cX3_lies 5 = .ok (.iload_n 1, 1) := by decide +kernel
theorem dX3_lies_6 : decode cX3_lies 6 = .ok (.iaload, 1) := by decide +kernel
theorem dX3_lies_7 : decode cX3_lies 7 = .ok (.iadd, 1) := by decide +kernel
theorem dX3_lies_8 : decode cX3_lies 8 = .ok (.istore_n 3, 1) := by decide +kernel
theorem dX3_lies_9 : decode cX3_lies 9 = .ok (.iload_n 3, 1) := by decide +kernel
theorem dX3_lies_10 : decode cX3_lies 10 = .ok (.aload_n 0, 1) := by decide +kernel
theorem dX3_lies_11 : decode cX3_lies 11 = .ok (.getfield 27, 3) := by decide +kernel
theorem dX3_lies_14 : decode cX3_lies 14 = .ok (.invokevirtual 35, 3) := by decide +kernel
theorem dX3_lies_17 : decode cX3_lies 17 = .ok (.if_icmp .le 5, 3) := by decide +kernel
theorem dX3_lies_20 : decode cX3_lies 20 = .ok (.iconst 0, 1) := by decide +kernel
theorem dX3_lies_21 : decode cX3_lies 21 = .ok (.ireturn, 1) := by decide +kernel
theorem dX3_lies_22 : decode cX3_lies 22 = .ok (.iload_n 2, 1) := by decide +kernel
theorem dX3_lies_23 : decode cX3_lies 23 = .ok (.istore 4, 2) := by decide +kernel
theorem dX3_lies_25 : decode cX3_lies 25 = .ok (.iload 4, 2) := by decide +kernel
theorem dX3_lies_27 : decode cX3_lies 27 = .ok (.iload_n 3, 1) := by decide +kernel
theorem dX3_lies_28 : decode cX3_lies 28 = .ok (.if_icmp .ge 29, 3) := by decide +kernel
theorem dX3_lies_31 : decode cX3_lies 31 = .ok (.aload_n 0, 1) := by decide +kernel
theorem dX3_lies_32 : decode cX3_lies 32 = .ok (.getfield 27, 3) := by decide +kernel
theorem dX3_lies_35 : decode cX3_lies 35 = .ok (.iload 4, 2) := by decide +kernel
theorem dX3_lies_37 : decode cX3_lies 37 = .ok (.invokevirtual 41, 3) := by decide +kernel
theorem dX3_lies_40 : decode cX3_lies 40 = .ok (.aload_n 0, 1) := by decide +kernel
theorem dX3_lies_41 : decode cX3_lies 41 = .ok (.getfield 18, 3) := by decide +kernel
theorem dX3_lies_44 : decode cX3_lies 44 = .ok (.iload_n 1, 1) := by decide +kernel
theorem dX3_lies_45 : decode cX3_lies 45 = .ok (.iaload, 1) := by decide +kernel
theorem dX3_lies_46 : decode cX3_lies 46 = .ok (.if_icmp .le 5, 3) := by decide +kernel
theorem dX3_lies_49 : decode cX3_lies 49 = .ok (.iconst 0, 1) := by decide +kernel
theorem dX3_lies_50 : decode cX3_lies 50 = .ok (.ireturn, 1) := by decide +kernel
theorem dX3_lies_51 : decode cX3_lies 51 = .ok (.iinc 4 1, 3) := by decide +kernel
theorem dX3_lies_54 : decode cX3_lies 54 = .ok (.goto (-29), 3) := by decide +kernel
theorem dX3_lies_57 : decode cX3_lies 57 = .ok (.iconst 1, 1) := by decide +kernel
theorem dX3_lies_58 : decode cX3_lies 58 = .ok (.ireturn, 1) := by decide +kernel
set_option maxRecDepth 20000 in
theorem ggX3_plan_X2_places : GoodIn wsX3_plan wsX2_places := goodIn_r _ [7, 8, 50, 51, 52, 53, 54, 55, 56, 57] (by decide +kernel) (by decide +kernel)
set_option maxRecDepth 20000 in
theorem gX3_plan_X2_places : GoodIn wsX3_plan (wsV RX3 35 RX2 yX2_places wsX2_places) := goodIn_app (goodIn_of _ (by decide +kernel)) ggX3_plan_X2_places
set_option maxRecDepth 20000 in
theorem ggX3_plan_X3_weigh : GoodIn wsX3_plan wsX3_weigh := goodIn_r _ [13, 2, 14, 15, 16, 17, 18, 19, 20, 12, 21, 1, 22, 3, 4, 5, 6, 7, 8, 23, 24, 25, 26, 27, 28, 29, 30, 31, 32, 33, 34, 35, 36, 37, 38, 43, 44, 45, 46, 47, 48, 49, 50, 51, 52, 53, 54, 55, 56, 57] (by decide +kernel) (by decide +kernel)
set_option maxRecDepth 20000 in
theorem gX3_plan_X3_weigh : GoodIn wsX3_plan (wsV RX3 45 RX3 yX3_weigh wsX3_weigh) := goodIn_app (goodIn_of _ (by decide +kernel)) ggX3_plan_X3_weigh
set_option maxRecDepth 20000 in
theorem ggX3_plan_X3_dropCovered : GoodIn wsX3_plan wsX3_dropCovered := goodIn_r _ [42, 17, 16, 43, 44, 45, 46, 47, 48, 49] (by decide +kernel) (by decide +kernel)
set_option maxRecDepth 20000 in
theorem gX3_plan_X3_dropCovered : GoodIn wsX3_plan (wsV RX3 49 RX3 yX3_dropCovered wsX3_dropCovered) := goodIn_app (goodIn_of _ (by decide +kernel)) ggX3_plan_X3_dropCovered
theorem dX3_plan_0 : decode cX3_plan 0 = .ok (.aload_n 0, 1) := by decide +kernel
theorem dX3_plan_1 : decode cX3_plan 1 = .ok (.getfield 27, 3) := by decide +kernel
theorem dX3_plan_4 : decode cX3_plan 4 = .ok (.invokevirtual 35, 3) := by decide +kernel
theorem dX3_plan_7 : decode cX3_plan 7 = .ok (.istore_n 1, 1) := by decide +kernel
theorem dX3_plan_8 : decode cX3_plan 8 = .ok (.aload_n 0, 1) := by decide +kernel
theorem dX3_plan_9 : decode cX3_plan 9 = .ok (.getfield 21, 3) := by decide +kernel
theorem dX3_plan_12 : decode cX3_plan 12 = .ok (.iload_n 1, 1) := by decide +kernel
theorem dX3_plan_13 : decode cX3_plan 13 = .ok (.iconst 0, 1) := by decide +kernel
theorem dX3_plan_14 : decode cX3_plan 14 = .ok (.iastore, 1) := by decide +kernel
theorem dX3_plan_15 : decode cX3_plan 15 = .ok (.iload_n 1, 1) := by decide +kernel
theorem dX3_plan_16 : decode cX3_plan 16 = .ok (.iconst 1, 1) := by decide +kernel
theorem dX3_plan_17 : decode cX3_plan 17 = .ok (.isub, 1) := by decide +kernel
theorem dX3_plan_18 : decode cX3_plan 18 = .ok (.istore_n 2, 1) := by decide +kernel
theorem dX3_plan_19 : decode cX3_plan 19 = .ok (.iload_n 2, 1) := by decide +kernel
theorem dX3_plan_20 : decode cX3_plan 20 = .ok (.ifCond .lt 14, 3) := by decide +kernel
theorem dX3_plan_23 : decode cX3_plan 23 = .ok (.aload_n 0, 1) := by decide +kernel
theorem dX3_plan_24 : decode cX3_plan 24 = .ok (.iload_n 2, 1) := by decide +kernel
theorem dX3_plan_25 : decode cX3_plan 25 = .ok (.invokevirtual 45, 3) := by decide +kernel
theorem dX3_plan_28 : decode cX3_plan 28 = .ok (.iinc 2 (-1), 3) := by decide +kernel
theorem dX3_plan_31 : decode cX3_plan 31 = .ok (.goto (-12), 3) := by decide +kernel
theorem dX3_plan_34 : decode cX3_plan 34 = .ok (.aload_n 0, 1) := by decide +kernel
theorem dX3_plan_35 : decode cX3_plan 35 = .ok (.iload_n 1, 1) := by decide +kernel
theorem dX3_plan_36 : decode cX3_plan 36 = .ok (.invokevirtual 49, 3) := by decide +kernel
theorem dX3_plan_39 : decode cX3_plan 39 = .ok (.aload_n 0, 1) := by decide +kernel
theorem dX3_plan_40 : decode cX3_plan 40 = .ok (.getfield 21, 3) := by decide +kernel
theorem dX3_plan_43 : decode cX3_plan 43 = .ok (.iconst 0, 1) := by decide +kernel
theorem dX3_plan_44 : decode cX3_plan 44 = .ok (.iaload, 1) := by decide +kernel
theorem dX3_plan_45 : decode cX3_plan 45 = .ok (.ireturn, 1) := by decide +kernel
set_option maxRecDepth 20000 in
theorem ggX3_weigh_X3_lies : GoodIn wsX3_weigh wsX3_lies := goodIn_r _ [10, 4, 11, 12, 13, 14, 15, 16, 17, 18, 19, 20, 21, 22, 23, 24, 25, 26, 27, 28, 29, 30, 31, 32, 33, 34, 35, 36, 37, 38, 39, 40, 41, 42, 43, 44, 45, 46, 47, 48, 49] (by decide +kernel) (by decide +kernel)
set_option maxRecDepth 20000 in
theorem gX3_weigh_X3_lies : GoodIn wsX3_weigh (wsV RX3 52 RX3 yX3_lies wsX3_lies) := goodIn_app (goodIn_of _ (by decide +kernel)) ggX3_weigh_X3_lies
theorem dX3_weigh_0 : decode cX3_weigh 0 = .ok (.aload_n 0, 1) := by decide +kernel
theorem dX3_weigh_1 : decode cX3_weigh 1 = .ok (.getfield 21, 3) := by decide +kernel
theorem dX3_weigh_4 : decode cX3_weigh 4 = .ok (.iload_n 1, 1) := by decide +kernel
theorem dX3_weigh_5 : decode cX3_weigh 5 = .ok (.iconst 1, 1) := by decide +kernel
theorem dX3_weigh_6 : decode cX3_weigh 6 = .ok (.iadd, 1) := by decide +kernel
theorem dX3_weigh_7 : decode cX3_weigh 7 = .ok (.iaload, 1) := by decide +kernel
theorem dX3_weigh_8 : decode cX3_weigh 8 = .ok (.istore_n 2, 1) := by decide +kernel
theorem dX3_weigh_9 : decode cX3_weigh 9 = .ok (.bipush (-6), 2) := by decide +kernel
theorem dX3_weigh_11 : decode cX3_weigh 11 = .ok (.istore_n 3, 1) := by decide +kernel
theorem dX3_weigh_12 : decode cX3_weigh 12 = .ok (.iconst 0, 1) := by decide +kernel
theorem dX3_weigh_13 : decode cX3_weigh 13 = .ok (.istore 4, 2) := by decide +kernel
theorem dX3_weigh_15 : decode cX3_weigh 15 = .ok (.iload 4, 2) := by decide +kernel
theorem dX3_weigh_17 : decode cX3_weigh 17 = .ok (.aload_n 0, 1) := by decide +kernel
theorem dX3_weigh_18 : decode cX3_weigh 18 = .ok (.getfield 31, 3) := by decide +kernel
theorem dX3_weigh_21 : decode cX3_weigh 21 = .ok (.if_icmp .ge 67, 3) := by decide +kernel
theorem dX3_weigh_24 : decode cX3_weigh 24 = .ok (.aload_n 0, 1) := by decide +kernel
theorem dX3_weigh_25 : decode cX3_weigh 25 = .ok (.iload 4, 2) := by decide +kernel
theorem dX3_weigh_27 : decode cX3_weigh 27 = .ok (.iload_n 1, 1) := by decide +kernel
theorem dX3_weigh_28 : decode cX3_weigh 28 = .ok (.invokevirtual 52, 3) := by decide +kernel
theorem dX3_weigh_31 : decode cX3_weigh 31 = .ok (.ifCond .eq 51, 3) := by decide +kernel
theorem dX3_weigh_34 : decode cX3_weigh 34 = .ok (.aload_n 0, 1) := by decide +kernel
theorem dX3_weigh_35 : decode cX3_weigh 35 = .ok (.getfield 15, 3) := by decide +kernel
theorem dX3_weigh_38 : decode cX3_weigh 38 = .ok (.iload 4, 2) := by decide +kernel
theorem dX3_weigh_40 : decode cX3_weigh 40 = .ok (.iaload, 1) := by decide +kernel
theorem dX3_weigh_41 : decode cX3_weigh 41 = .ok (.aload_n 0, 1) := by decide +kernel
theorem dX3_weigh_42 : decode cX3_weigh 42 = .ok (.getfield 21, 3) := by decide +kernel
theorem dX3_weigh_45 : decode cX3_weigh 45 = .ok (.iload_n 1, 1) := by decide +kernel
theorem dX3_weigh_46 : decode cX3_weigh 46 = .ok (.aload_n 0, 1) := by decide +kernel
theorem dX3_weigh_47 : decode cX3_weigh 47 = .ok (.getfield 9, 3) := by decide +kernel
theorem dX3_weigh_50 : decode cX3_weigh 50 = .ok (.iload 4, 2) := by decide +kernel
theorem dX3_weigh_52 : decode cX3_weigh 52 = .ok (.iaload, 1) := by decide +kernel
theorem dX3_weigh_53 : decode cX3_weigh 53 = .ok (.iadd, 1) := by decide +kernel
theorem dX3_weigh_54 : decode cX3_weigh 54 = .ok (.iaload, 1) := by decide +kernel
theorem dX3_weigh_55 : decode cX3_weigh 55 = .ok (.iadd, 1) := by decide +kernel
theorem dX3_weigh_56 : decode cX3_weigh 56 = .ok (.istore 5, 2) := by decide +kernel
theorem dX3_weigh_58 : decode cX3_weigh 58 = .ok (.iload 5, 2) := by decide +kernel
theorem dX3_weigh_60 : decode cX3_weigh 60 = .ok (.iload_n 2, 1) := by decide +kernel
theorem dX3_weigh_61 : decode cX3_weigh 61 = .ok (.if_icmp .gt 15, 3) := by decide +kernel
theorem dX3_weigh_64 : decode cX3_weigh 64 = .ok (.iload 5, 2) := by decide +kernel
theorem dX3_weigh_66 : decode cX3_weigh 66 = .ok (.iload_n 2, 1) := by decide +kernel
theorem dX3_weigh_67 : decode cX3_weigh 67 = .ok (.if_icmp .ne 15, 3) := by decide +kernel
theorem dX3_weigh_70 : decode cX3_weigh 70 = .ok (.iload_n 3, 1) := by decide +kernel
theorem dX3_weigh_71 : decode cX3_weigh 71 = .ok (.bipush (-6), 2) := by decide +kernel
theorem dX3_weigh_73 : decode cX3_weigh 73 = .ok (.if_icmp .ne 9, 3) := by decide +kernel
theorem dX3_weigh_76 : decode cX3_weigh 76 = .ok (.iload 5, 2) := by decide +kernel
theorem dX3_weigh_78 : decode cX3_weigh 78 = .ok (.istore_n 2, 1) := by decide +kernel
theorem dX3_weigh_79 : decode cX3_weigh 79 = .ok (.iload 4, 2) := by decide +kernel
theorem dX3_weigh_81 : decode cX3_weigh 81 = .ok (.istore_n 3, 1) := by decide +kernel
theorem dX3_weigh_82 : decode cX3_weigh 82 = .ok (.iinc 4 1, 3) := by decide +kernel
theorem dX3_weigh_85 : decode cX3_weigh 85 = .ok (.goto (-70), 3) := by decide +kernel
theorem dX3_weigh_88 : decode cX3_weigh 88 = .ok (.aload_n 0, 1) := by decide +kernel
theorem dX3_weigh_89 : decode cX3_weigh 89 = .ok (.getfield 21, 3) := by decide +kernel
theorem dX3_weigh_92 : decode cX3_weigh 92 = .ok (.iload_n 1, 1) := by decide +kernel
theorem dX3_weigh_93 : decode cX3_weigh 93 = .ok (.iload_n 2, 1) := by decide +kernel
theorem dX3_weigh_94 : decode cX3_weigh 94 = .ok (.iastore, 1) := by decide +kernel
theorem dX3_weigh_95 : decode cX3_weigh 95 = .ok (.aload_n 0, 1) := by decide +kernel
theorem dX3_weigh_96 : decode cX3_weigh 96 = .ok (.getfield 24, 3) := by decide +kernel
theorem dX3_weigh_99 : decode cX3_weigh 99 = .ok (.iload_n 1, 1) := by decide +kernel
theorem dX3_weigh_100 : decode cX3_weigh 100 = .ok (.iload_n 3, 1) := by decide +kernel
theorem dX3_weigh_101 : decode cX3_weigh 101 = .ok (.iastore, 1) := by decide +kernel
theorem dX3_weigh_102 : decode cX3_weigh 102 = .ok (.return_, 1) := by decide +kernel
theorem dX3_dropCovered_0 : decode cX3_dropCovered 0 = .ok (.iconst 0, 1) := by decide +kernel
theorem dX3_dropCovered_1 : decode cX3_dropCovered 1 = .ok (.istore_n 2, 1) := by decide +kernel
theorem dX3_dropCovered_2 : decode cX3_dropCovered 2 = .ok (.iconst 0, 1) := by decide +kernel
theorem dX3_dropCovered_3 : decode cX3_dropCovered 3 = .ok (.istore_n 3, 1) := by decide +kernel
theorem dX3_dropCovered_4 : decode cX3_dropCovered 4 = .ok (.iload_n 3, 1) := by decide +kernel
theorem dX3_dropCovered_5 : decode cX3_dropCovered 5 = .ok (.iload_n 1, 1) := by decide +kernel
theorem dX3_dropCovered_6 : decode cX3_dropCovered 6 = .ok (.if_icmp .ge 50, 3) := by decide +kernel
theorem dX3_dropCovered_9 : decode cX3_dropCovered 9 = .ok (.iload_n 3, 1) := by decide +kernel
theorem dX3_dropCovered_10 : decode cX3_dropCovered 10 = .ok (.iload_n 2, 1) := by decide +kernel
theorem dX3_dropCovered_11 : decode cX3_dropCovered 11 = .ok (.if_icmp .ge 14, 3) := by decide +kernel
theorem dX3_dropCovered_14 : decode cX3_dropCovered 14 = .ok (.aload_n 0, 1) := by decide +kernel
theorem dX3_dropCovered_15 : decode cX3_dropCovered 15 = .ok (.getfield 24, 3) := by decide +kernel
theorem dX3_dropCovered_18 : decode cX3_dropCovered 18 = .ok (.iload_n 3, 1) := by decide +kernel
theorem dX3_dropCovered_19 : decode cX3_dropCovered 19 = .ok (.bipush (-6), 2) := by decide +kernel
theorem dX3_dropCovered_21 : decode cX3_dropCovered 21 = .ok (.iastore, 1) := by decide +kernel
theorem dX3_dropCovered_22 : decode cX3_dropCovered 22 = .ok (.goto 28, 3) := by decide +kernel
theorem dX3_dropCovered_25 : decode cX3_dropCovered 25 = .ok (.aload_n 0, 1) := by decide +kernel
theorem dX3_dropCovered_26 : decode cX3_dropCovered 26 = .ok (.getfield 24, 3) := by decide +kernel
theorem dX3_dropCovered_29 : decode cX3_dropCovered 29 = .ok (.iload_n 3, 1) := by decide +kernel
theorem dX3_dropCovered_30 : decode cX3_dropCovered 30 = .ok (.iaload, 1) := by decide +kernel
theorem dX3_dropCovered_31 : decode cX3_dropCovered 31 = .ok (.bipush (-6), 2) := by decide +kernel
theorem dX3_dropCovered_33 : decode cX3_dropCovered 33 = .ok (.if_icmp .eq 17, 3) := by decide +kernel
theorem dX3_dropCovered_36 : decode cX3_dropCovered 36 = .ok (.iload_n 3, 1) := by decide +kernel
theorem dX3_dropCovered_37 : decode cX3_dropCovered 37 = .ok (.aload_n 0, 1) := by decide +kernel
theorem dX3_dropCovered_38 : decode cX3_dropCovered 38 = .ok (.getfield 9, 3) := by decide +kernel
theorem dX3_dropCovered_41 : decode cX3_dropCovered 41 = .ok (.aload_n 0, 1) := by decide +kernel
theorem dX3_dropCovered_42 : decode cX3_dropCovered 42 = .ok (.getfield 24, 3) := by decide +kernel
theorem dX3_dropCovered_45 : decode cX3_dropCovered 45 = .ok (.iload_n 3, 1) := by decide +kernel
theorem dX3_dropCovered_46 : decode cX3_dropCovered 46 = .ok (.iaload, 1) := by decide +kernel
theorem dX3_dropCovered_47 : decode cX3_dropCovered 47 = .ok (.iaload, 1) := by decide +kernel
theorem dX3_dropCovered_48 : decode cX3_dropCovered 48 = .ok (.iadd, 1) := by decide +kernel
theorem dX3_dropCovered_49 : decode cX3_dropCovered 49 = .ok (.istore_n 2, 1) := by decide +kernel
theorem dX3_dropCovered_50 : decode cX3_dropCovered 50 = .ok (.iinc 3 1, 3) := by decide +kernel
theorem dX3_dropCovered_53 : decode cX3_dropCovered 53 = .ok (.goto (-49), 3) := by decide +kernel
theorem dX3_dropCovered_56 : decode cX3_dropCovered 56 = .ok (.return_, 1) := by decide +kernel
theorem dX3_plannedAt_0 : decode cX3_plannedAt 0 = .ok (.aload_n 0, 1) := by decide +kernel
theorem dX3_plannedAt_1 : decode cX3_plannedAt 1 = .ok (.getfield 24, 3) := by decide +kernel
theorem dX3_plannedAt_4 : decode cX3_plannedAt 4 = .ok (.iload_n 1, 1) := by decide +kernel
theorem dX3_plannedAt_5 : decode cX3_plannedAt 5 = .ok (.iaload, 1) := by decide +kernel
theorem dX3_plannedAt_6 : decode cX3_plannedAt 6 = .ok (.ireturn, 1) := by decide +kernel
end
section
set_option maxRecDepth 20000 in
theorem ggX4_init_X0_init : GoodIn wsX4_init wsX0_init := goodIn_r _ [22, 23, 2, 3, 24, 25, 26, 27, 28, 29, 30, 31, 32, 33, 34, 6, 35, 36, 37, 69, 70, 71, 72, 73, 74, 75, 76] (by decide +kernel) (by decide +kernel)
set_option maxRecDepth 20000 in
theorem gX4_init_X0_init : GoodIn wsX4_init (wsX0_init) := ggX4_init_X0_init
set_option maxRecDepth 20000 in
theorem ggX4_init_X2_init : GoodIn wsX4_init wsX2_init := goodIn_r _ [40, 41, 2, 3, 24, 42, 43, 44, 45, 46, 47, 48, 81, 82, 83, 84, 85, 86, 87, 88] (by decide +kernel) (by decide +kernel)
set_option maxRecDepth 20000 in
theorem gX4_init_X2_init : GoodIn wsX4_init (wsX2_init) := ggX4_init_X2_init
set_option maxRecDepth 20000 in
theorem ggX4_init_X3_init : GoodIn wsX4_init wsX3_init := goodIn_r _ [51, 52, 2, 3, 24, 53, 54, 55, 56, 57, 58, 89, 90, 91, 92, 93, 94, 95] (by decide +kernel) (by decide +kernel)
set_option maxRecDepth 20000 in
theorem gX4_init_X3_init : GoodIn wsX4_init (wsX3_init) := ggX4_init_X3_init
set_option maxRecDepth 20000 in
theorem ggX4_init_X1_init : GoodIn wsX4_init wsX1_init := goodIn_r _ [61, 62, 2, 3, 24, 63, 64, 65, 66, 67, 68, 96, 97, 98, 99] (by decide +kernel) (by decide +kernel)
set_option maxRecDepth 20000 in
theorem gX4_init_X1_init : GoodIn wsX4_init (wsX1_init) := ggX4_init_X1_init
theorem dX4_init_0 : decode cX4_init 0 = .ok (.aload_n 0, 1) := by decide +kernel
theorem dX4_init_1 : decode cX4_init 1 = .ok (.invokespecial 1, 3) := by decide +kernel
theorem dX4_init_4 : decode cX4_init 4 = .ok (.aload_n 0, 1) := by decide +kernel
theorem dX4_init_5 : decode cX4_init 5 = .ok (.new 7, 3) := by decide +kernel
theorem dX4_init_8 : decode cX4_init 8 = .ok (.dup, 1) := by decide +kernel
theorem dX4_init_9 : decode cX4_init 9 = .ok (.invokespecial 9, 3) := by decide +kernel
theorem dX4_init_12 : decode cX4_init 12 = .ok (.putfield 10, 3) := by decide +kernel
theorem dX4_init_15 : decode cX4_init 15 = .ok (.aload_n 0, 1) := by decide +kernel
theorem dX4_init_16 : decode cX4_init 16 = .ok (.new 16, 3) := by decide +kernel
theorem dX4_init_19 : decode cX4_init 19 = .ok (.dup, 1) := by decide +kernel
theorem dX4_init_20 : decode cX4_init 20 = .ok (.invokespecial 18, 3) := by decide +kernel
theorem dX4_init_23 : decode cX4_init 23 = .ok (.putfield 19, 3) := by decide +kernel
theorem dX4_init_26 : decode cX4_init 26 = .ok (.aload_n 0, 1) := by decide +kernel
theorem dX4_init_27 : decode cX4_init 27 = .ok (.new 23, 3) := by decide +kernel
theorem dX4_init_30 : decode cX4_init 30 = .ok (.dup, 1) := by decide +kernel
theorem dX4_init_31 : decode cX4_init 31 = .ok (.aload_n 0, 1) := by decide +kernel
theorem dX4_init_32 : decode cX4_init 32 = .ok (.getfield 19, 3) := by decide +kernel
theorem dX4_init_35 : decode cX4_init 35 = .ok (.invokespecial 25, 3) := by decide +kernel
theorem dX4_init_38 : decode cX4_init 38 = .ok (.putfield 28, 3) := by decide +kernel
theorem dX4_init_41 : decode cX4_init 41 = .ok (.aload_n 0, 1) := by decide +kernel
theorem dX4_init_42 : decode cX4_init 42 = .ok (.new 32, 3) := by decide +kernel
theorem dX4_init_45 : decode cX4_init 45 = .ok (.dup, 1) := by decide +kernel
theorem dX4_init_46 : decode cX4_init 46 = .ok (.invokespecial 34, 3) := by decide +kernel
theorem dX4_init_49 : decode cX4_init 49 = .ok (.putfield 35, 3) := by decide +kernel
theorem dX4_init_52 : decode cX4_init 52 = .ok (.return_, 1) := by decide +kernel
set_option maxRecDepth 20000 in
theorem ggX4_sheet_X4_within : GoodIn wsX4_sheet wsX4_within := goodIn_r _ [7] (by decide +kernel) (by decide +kernel)
set_option maxRecDepth 20000 in
theorem gX4_sheet_X4_within : GoodIn wsX4_sheet (va_wsS RX4 39 yX4_within wsX4_within) := goodIn_app (goodIn_of _ (by decide +kernel)) ggX4_sheet_X4_within
set_option maxRecDepth 20000 in
theorem ggX4_sheet_X2_places : GoodIn wsX4_sheet wsX2_places := goodIn_r _ [12, 13, 43, 44, 45, 46, 47, 48, 49, 50] (by decide +kernel) (by decide +kernel)
set_option maxRecDepth 20000 in
theorem gX4_sheet_X2_places : GoodIn wsX4_sheet (wsV RX4 43 RX2 yX2_places wsX2_places) := goodIn_app (goodIn_of _ (by decide +kernel)) ggX4_sheet_X2_places
set_option maxRecDepth 20000 in
theorem ggX4_sheet_X0_forget : GoodIn wsX4_sheet wsX0_forget := goodIn_r _ [18, 19, 20, 21, 22, 51, 52, 53, 54, 55, 56, 57, 58] (by decide +kernel) (by decide +kernel)
set_option maxRecDepth 20000 in
theorem gX4_sheet_X0_forget : GoodIn wsX4_sheet (wsV RX4 47 RX0 yX0_forget wsX0_forget) := goodIn_app (goodIn_of _ (by decide +kernel)) ggX4_sheet_X0_forget
set_option maxRecDepth 20000 in
theorem ggX4_sheet_X3_forget : GoodIn wsX4_sheet wsX3_forget := goodIn_r _ [27, 28, 59, 60, 61, 62, 63, 64, 65] (by decide +kernel) (by decide +kernel)
set_option maxRecDepth 20000 in
theorem gX4_sheet_X3_forget : GoodIn wsX4_sheet (wsV RX4 50 RX3 yX3_forget wsX3_forget) := goodIn_app (goodIn_of _ (by decide +kernel)) ggX4_sheet_X3_forget
set_option maxRecDepth 20000 in
theorem ggX4_sheet_X2_renew : GoodIn wsX4_sheet wsX2_renew := goodIn_r _ [32, 13, 33, 34, 35, 36, 37, 38, 43, 44, 45, 46, 47, 48, 49, 50] (by decide +kernel) (by decide +kernel)
set_option maxRecDepth 20000 in
theorem gX4_sheet_X2_renew : GoodIn wsX4_sheet (wsV RX4 51 RX2 yX2_renew wsX2_renew) := goodIn_app (goodIn_of _ (by decide +kernel)) ggX4_sheet_X2_renew
theorem dX4_sheet_0 : decode cX4_sheet 0 = .ok (.iload_n 1, 1) := by decide +kernel
theorem dX4_sheet_1 : decode cX4_sheet 1 = .ok (.iconst 2, 1) := by decide +kernel
theorem dX4_sheet_2 : decode cX4_sheet 2 = .ok (.bipush 24, 2) := by decide +kernel
theorem dX4_sheet_4 : decode cX4_sheet 4 = .ok (.invokestatic 39, 3) := by decide +kernel
theorem dX4_sheet_7 : decode cX4_sheet 7 = .ok (.ifCond .ne 6, 3) := by decide +kernel
theorem dX4_sheet_10 : decode cX4_sheet 10 = .ok (.bipush (-2), 2) := by decide +kernel
theorem dX4_sheet_12 : decode cX4_sheet 12 = .ok (.ireturn, 1) := by decide +kernel
theorem dX4_sheet_13 : decode cX4_sheet 13 = .ok (.aload_n 0, 1) := by decide +kernel
theorem dX4_sheet_14 : decode cX4_sheet 14 = .ok (.getfield 19, 3) := by decide +kernel
theorem dX4_sheet_17 : decode cX4_sheet 17 = .ok (.invokevirtual 43, 3) := by decide +kernel
theorem dX4_sheet_20 : decode cX4_sheet 20 = .ok (.istore_n 2, 1) := by decide +kernel
theorem dX4_sheet_21 : decode cX4_sheet 21 = .ok (.aload_n 0, 1) := by decide +kernel
theorem dX4_sheet_22 : decode cX4_sheet 22 = .ok (.getfield 10, 3) := by decide +kernel
theorem dX4_sheet_25 : decode cX4_sheet 25 = .ok (.invokevirtual 47, 3) := by decide +kernel
theorem dX4_sheet_28 : decode cX4_sheet 28 = .ok (.aload_n 0, 1) := by decide +kernel
theorem dX4_sheet_29 : decode cX4_sheet 29 = .ok (.getfield 28, 3) := by decide +kernel
theorem dX4_sheet_32 : decode cX4_sheet 32 = .ok (.invokevirtual 50, 3) := by decide +kernel
theorem dX4_sheet_35 : decode cX4_sheet 35 = .ok (.aload_n 0, 1) := by decide +kernel
theorem dX4_sheet_36 : decode cX4_sheet 36 = .ok (.getfield 19, 3) := by decide +kernel
theorem dX4_sheet_39 : decode cX4_sheet 39 = .ok (.iload_n 1, 1) := by decide +kernel
theorem dX4_sheet_40 : decode cX4_sheet 40 = .ok (.invokevirtual 51, 3) := by decide +kernel
theorem dX4_sheet_43 : decode cX4_sheet 43 = .ok (.iload_n 2, 1) := by decide +kernel
theorem dX4_sheet_44 : decode cX4_sheet 44 = .ok (.ireturn, 1) := by decide +kernel
set_option maxRecDepth 20000 in
theorem ggX4_read_X4_isPlace : GoodIn wsX4_read wsX4_isPlace := goodIn_r _ [6, 7, 8, 9, 10, 11, 12, 13, 14, 15, 5, 16, 44, 45, 46, 47, 48, 49, 50, 51, 52, 53, 54, 55] (by decide +kernel) (by decide +kernel)
set_option maxRecDepth 20000 in
theorem gX4_read_X4_isPlace : GoodIn wsX4_read (wsV RX4 55 RX4 yX4_isPlace wsX4_isPlace) := goodIn_app (goodIn_of _ (by decide +kernel)) ggX4_read_X4_isPlace
set_option maxRecDepth 20000 in
theorem ggX4_read_X4_isTime : GoodIn wsX4_read wsX4_isTime := goodIn_r _ [19, 14, 15, 5, 16] (by decide +kernel) (by decide +kernel)
set_option maxRecDepth 20000 in
theorem gX4_read_X4_isTime : GoodIn wsX4_read (va_wsS RX4 59 yX4_isTime wsX4_isTime) := goodIn_app (goodIn_of _ (by decide +kernel)) ggX4_read_X4_isTime
set_option maxRecDepth 20000 in
theorem ggX4_read_X4_within : GoodIn wsX4_read wsX4_within := goodIn_r _ [16] (by decide +kernel) (by decide +kernel)
set_option maxRecDepth 20000 in
theorem gX4_read_X4_within : GoodIn wsX4_read (va_wsS RX4 39 yX4_within wsX4_within) := goodIn_app (goodIn_of _ (by decide +kernel)) ggX4_read_X4_within
set_option maxRecDepth 20000 in
theorem ggX4_read_X0_count : GoodIn wsX4_read wsX0_count := goodIn_r _ [24, 25, 56, 57, 58, 59, 60, 61, 62, 63] (by decide +kernel) (by decide +kernel)
set_option maxRecDepth 20000 in
theorem gX4_read_X0_count : GoodIn wsX4_read (wsV RX4 62 RX0 yX0_count wsX0_count) := goodIn_app (goodIn_of _ (by decide +kernel)) ggX4_read_X0_count
set_option maxRecDepth 20000 in
theorem ggX4_read_X0_add : GoodIn wsX4_read wsX0_add := goodIn_r _ [29, 30, 25, 31, 32, 33, 34, 35, 36, 23, 37, 38, 39, 40, 41, 42, 43, 56, 57, 58, 59, 60, 61, 62, 63] (by decide +kernel) (by decide +kernel)
set_option maxRecDepth 20000 in
theorem gX4_read_X0_add : GoodIn wsX4_read (wsV RX4 65 RX0 yX0_add wsX0_add) := goodIn_app (goodIn_of _ (by decide +kernel)) ggX4_read_X0_add
theorem dX4_read_0 : decode cX4_read 0 = .ok (.aload_n 0, 1) := by decide +kernel
theorem dX4_read_1 : decode cX4_read 1 = .ok (.iload_n 2, 1) := by decide +kernel
theorem dX4_read_2 : decode cX4_read 2 = .ok (.invokevirtual 55, 3) := by decide +kernel
theorem dX4_read_5 : decode cX4_read 5 = .ok (.ifCond .ne 5, 3) := by decide +kernel
theorem dX4_read_8 : decode cX4_read 8 = .ok (.iconst (-1), 1) := by decide +kernel
theorem dX4_read_9 : decode cX4_read 9 = .ok (.ireturn, 1) := by decide +kernel
theorem dX4_read_10 : decode cX4_read 10 = .ok (.iload_n 1, 1) := by decide +kernel
theorem dX4_read_11 : decode cX4_read 11 = .ok (.invokestatic 59, 3) := by decide +kernel
theorem dX4_read_14 : decode cX4_read 14 = .ok (.ifCond .eq 16, 3) := by decide +kernel
theorem dX4_read_17 : decode cX4_read 17 = .ok (.iload_n 3, 1) := by decide +kernel
theorem dX4_read_18 : decode cX4_read 18 = .ok (.sipush (-1000), 3) := by decide +kernel
theorem dX4_read_21 : decode cX4_read 21 = .ok (.sipush 1000, 3) := by decide +kernel
theorem dX4_read_24 : decode cX4_read 24 = .ok (.invokestatic 39, 3) := by decide +kernel
theorem dX4_read_27 : decode cX4_read 27 = .ok (.ifCond .ne 6, 3) := by decide +kernel
theorem dX4_read_30 : decode cX4_read 30 = .ok (.bipush (-2), 2) := by decide +kernel
theorem dX4_read_32 : decode cX4_read 32 = .ok (.ireturn, 1) := by decide +kernel
theorem dX4_read_33 : decode cX4_read 33 = .ok (.aload_n 0, 1) := by decide +kernel
theorem dX4_read_34 : decode cX4_read 34 = .ok (.getfield 10, 3) := by decide +kernel
theorem dX4_read_37 : decode cX4_read 37 = .ok (.invokevirtual 62, 3) := by decide +kernel
theorem dX4_read_40 : decode cX4_read 40 = .ok (.bipush 100, 2) := by decide +kernel
theorem dX4_read_42 : decode cX4_read 42 = .ok (.if_icmp .lt 6, 3) := by decide +kernel
theorem dX4_read_45 : decode cX4_read 45 = .ok (.bipush (-4), 2) := by decide +kernel
theorem dX4_read_47 : decode cX4_read 47 = .ok (.ireturn, 1) := by decide +kernel
theorem dX4_read_48 : decode cX4_read 48 = .ok (.aload_n 0, 1) := by decide +kernel
theorem dX4_read_49 : decode cX4_read 49 = .ok (.getfield 10, 3) := by decide +kernel
theorem dX4_read_52 : decode cX4_read 52 = .ok (.iload_n 1, 1) := by decide +kernel
theorem dX4_read_53 : decode cX4_read 53 = .ok (.iload_n 2, 1) := by decide +kernel
theorem dX4_read_54 : decode cX4_read 54 = .ok (.iload_n 3, 1) := by decide +kernel
theorem dX4_read_55 : decode cX4_read 55 = .ok (.invokevirtual 65, 3) := by decide +kernel
theorem dX4_read_58 : decode cX4_read 58 = .ok (.ifCond .eq 7, 3) := by decide +kernel
theorem dX4_read_61 : decode cX4_read 61 = .ok (.iconst 1, 1) := by decide +kernel
theorem dX4_read_62 : decode cX4_read 62 = .ok (.goto 4, 3) := by decide +kernel
theorem dX4_read_65 : decode cX4_read 65 = .ok (.iconst 0, 1) := by decide +kernel
theorem dX4_read_66 : decode cX4_read 66 = .ok (.ireturn, 1) := by decide +kernel
set_option maxRecDepth 20000 in
theorem ggX4_reading_X0_count : GoodIn wsX4_reading wsX0_count := goodIn_r _ [8, 9, 38, 39, 40, 41, 42, 43, 44, 45] (by decide +kernel) (by decide +kernel)
set_option maxRecDepth 20000 in
theorem gX4_reading_X0_count : GoodIn wsX4_reading (wsV RX4 62 RX0 yX0_count wsX0_count) := goodIn_app (goodIn_of _ (by decide +kernel)) ggX4_reading_X0_count
set_option maxRecDepth 20000 in
theorem ggX4_reading_X4_within : GoodIn wsX4_reading wsX4_within := goodIn_r _ [13] (by decide +kernel) (by decide +kernel)
set_option maxRecDepth 20000 in
theorem gX4_reading_X4_within : GoodIn wsX4_reading (va_wsS RX4 39 yX4_within wsX4_within) := goodIn_app (goodIn_of _ (by decide +kernel)) ggX4_reading_X4_within
set_option maxRecDepth 20000 in
theorem ggX4_reading_X0_timeOf : GoodIn wsX4_reading wsX0_timeOf := goodIn_r _ [17, 18, 38, 39, 40, 41, 42, 43, 44, 45] (by decide +kernel) (by decide +kernel)
set_option maxRecDepth 20000 in
theorem gX4_reading_X0_timeOf : GoodIn wsX4_reading (wsV RX4 69 RX0 yX0_timeOf wsX0_timeOf) := goodIn_app (goodIn_of _ (by decide +kernel)) ggX4_reading_X0_timeOf
set_option maxRecDepth 20000 in
theorem ggX4_reading_X0_placeOf : GoodIn wsX4_reading wsX0_placeOf := goodIn_r _ [22, 23, 38, 39, 40, 41, 42, 43, 44, 45] (by decide +kernel) (by decide +kernel)
set_option maxRecDepth 20000 in
theorem gX4_reading_X0_placeOf : GoodIn wsX4_reading (wsV RX4 73 RX0 yX0_placeOf wsX0_placeOf) := goodIn_app (goodIn_of _ (by decide +kernel)) ggX4_reading_X0_placeOf
set_option maxRecDepth 20000 in
theorem ggX4_reading_X0_valueOf : GoodIn wsX4_reading wsX0_valueOf := goodIn_r _ [27, 28, 38, 39, 40, 41, 42, 43, 44, 45] (by decide +kernel) (by decide +kernel)
set_option maxRecDepth 20000 in
theorem gX4_reading_X0_valueOf : GoodIn wsX4_reading (wsV RX4 76 RX0 yX0_valueOf wsX0_valueOf) := goodIn_app (goodIn_of _ (by decide +kernel)) ggX4_reading_X0_valueOf
set_option maxRecDepth 20000 in
theorem ggX4_reading_X0_isFitting : GoodIn wsX4_reading wsX0_isFitting := goodIn_r _ [32, 33, 38, 39, 40, 41, 42, 43, 44, 45] (by decide +kernel) (by decide +kernel)
set_option maxRecDepth 20000 in
theorem gX4_reading_X0_isFitting : GoodIn wsX4_reading (wsV RX4 79 RX0 yX0_isFitting wsX0_isFitting) := goodIn_app (goodIn_of _ (by decide +kernel)) ggX4_reading_X0_isFitting
theorem dX4_reading_0 : decode cX4_reading 0 = .ok (.iload_n 1, 1) := by decide +kernel
theorem dX4_reading_1 : decode cX4_reading 1 = .ok (.iconst 0, 1) := by decide +kernel
theorem dX4_reading_2 : decode cX4_reading 2 = .ok (.aload_n 0, 1) := by decide +kernel
theorem dX4_reading_3 : decode cX4_reading 3 = .ok (.getfield 10, 3) := by decide +kernel
theorem dX4_reading_6 : decode cX4_reading 6 = .ok (.invokevirtual 62, 3) := by decide +kernel
theorem dX4_reading_9 : decode cX4_reading 9 = .ok (.iconst 1, 1) := by decide +kernel
theorem dX4_reading_10 : decode cX4_reading 10 = .ok (.isub, 1) := by decide +kernel
theorem dX4_reading_11 : decode cX4_reading 11 = .ok (.invokestatic 39, 3) := by decide +kernel
theorem dX4_reading_14 : decode cX4_reading 14 = .ok (.ifCond .ne 6, 3) := by decide +kernel
theorem dX4_reading_17 : decode cX4_reading 17 = .ok (.ldc 68, 2) := by decide +kernel
theorem dX4_reading_19 : decode cX4_reading 19 = .ok (.ireturn, 1) := by decide +kernel
theorem dX4_reading_20 : decode cX4_reading 20 = .ok (.iload_n 2, 1) := by decide +kernel
theorem dX4_reading_21 : decode cX4_reading 21 = .ok (.tableswitch 75 0 3 #[31, 40, 49, 58], 31) := by decide +kernel
theorem dX4_reading_52 : decode cX4_reading 52 = .ok (.aload_n 0, 1) := by decide +kernel
theorem dX4_reading_53 : decode cX4_reading 53 = .ok (.getfield 10, 3) := by decide +kernel
theorem dX4_reading_56 : decode cX4_reading 56 = .ok (.iload_n 1, 1) := by decide +kernel
theorem dX4_reading_57 : decode cX4_reading 57 = .ok (.invokevirtual 69, 3) := by decide +kernel
theorem dX4_reading_60 : decode cX4_reading 60 = .ok (.ireturn, 1) := by decide +kernel
theorem dX4_reading_61 : decode cX4_reading 61 = .ok (.aload_n 0, 1) := by decide +kernel
theorem dX4_reading_62 : decode cX4_reading 62 = .ok (.getfield 10, 3) := by decide +kernel
theorem dX4_reading_65 : decode cX4_reading 65 = .ok (.iload_n 1, 1) := by decide +kernel
theorem dX4_reading_66 : decode cX4_reading 66 = .ok (.invokevirtual 73, 3) := by decide +kernel
theorem dX4_reading_69 : decode cX4_reading 69 = .ok (.ireturn, 1) := by decide +kernel
theorem dX4_reading_70 : decode cX4_reading 70 = .ok (.aload_n 0, 1) := by decide +kernel
theorem dX4_reading_71 : decode cX4_reading 71 = .ok (.getfield 10, 3) := by decide +kernel
theorem dX4_reading_74 : decode cX4_reading 74 = .ok (.iload_n 1, 1) := by decide +kernel
theorem dX4_reading_75 : decode cX4_reading 75 = .ok (.invokevirtual 76, 3) := by decide +kernel
theorem dX4_reading_78 : decode cX4_reading 78 = .ok (.ireturn, 1) := by decide +kernel
theorem dX4_reading_79 : decode cX4_reading 79 = .ok (.aload_n 0, 1) := by decide +kernel
theorem dX4_reading_80 : decode cX4_reading 80 = .ok (.getfield 10, 3) := by decide +kernel
theorem dX4_reading_83 : decode cX4_reading 83 = .ok (.iload_n 1, 1) := by decide +kernel
theorem dX4_reading_84 : decode cX4_reading 84 = .ok (.invokevirtual 79, 3) := by decide +kernel
theorem dX4_reading_87 : decode cX4_reading 87 = .ok (.ifCond .eq 7, 3) := by decide +kernel
theorem dX4_reading_90 : decode cX4_reading 90 = .ok (.iconst 1, 1) := by decide +kernel
theorem dX4_reading_91 : decode cX4_reading 91 = .ok (.goto 4, 3) := by decide +kernel
theorem dX4_reading_94 : decode cX4_reading 94 = .ok (.iconst 0, 1) := by decide +kernel
theorem dX4_reading_95 : decode cX4_reading 95 = .ok (.ireturn, 1) := by decide +kernel
theorem dX4_reading_96 : decode cX4_reading 96 = .ok (.ldc 82, 2) := by decide +kernel
theorem dX4_reading_98 : decode cX4_reading 98 = .ok (.ireturn, 1) := by decide +kernel
set_option maxRecDepth 20000 in
theorem ggX4_across_X4_isPlace : GoodIn wsX4_across wsX4_isPlace := goodIn_r _ [8, 9, 10, 11, 12, 13, 14, 15, 16, 17, 7, 18, 30, 31, 32, 33, 34, 35, 36, 37, 38, 39, 40, 41] (by decide +kernel) (by decide +kernel)
set_option maxRecDepth 20000 in
theorem gX4_across_X4_isPlace : GoodIn wsX4_across (wsV RX4 55 RX4 yX4_isPlace wsX4_isPlace) := goodIn_app (goodIn_of _ (by decide +kernel)) ggX4_across_X4_isPlace
set_option maxRecDepth 20000 in
theorem ggX4_across_X0_hasAcross : GoodIn wsX4_across wsX0_hasAcross := goodIn_r _ [23, 24, 42, 43, 44, 45, 46, 47, 48, 49] (by decide +kernel) (by decide +kernel)
set_option maxRecDepth 20000 in
theorem gX4_across_X0_hasAcross : GoodIn wsX4_across (wsV RX4 83 RX0 yX0_hasAcross wsX0_hasAcross) := goodIn_app (goodIn_of _ (by decide +kernel)) ggX4_across_X0_hasAcross
set_option maxRecDepth 20000 in
theorem ggX4_across_X0_acrossOf : GoodIn wsX4_across wsX0_acrossOf := goodIn_r _ [28, 29, 42, 43, 44, 45, 46, 47, 48, 49] (by decide +kernel) (by decide +kernel)
set_option maxRecDepth 20000 in
theorem gX4_across_X0_acrossOf : GoodIn wsX4_across (wsV RX4 86 RX0 yX0_acrossOf wsX0_acrossOf) := goodIn_app (goodIn_of _ (by decide +kernel)) ggX4_across_X0_acrossOf
theorem dX4_across_0 : decode cX4_across 0 = .ok (.aload_n 0, 1) := by decide +kernel
theorem dX4_across_1 : decode cX4_across 1 = .ok (.iload_n 1, 1) := by decide +kernel
theorem dX4_across_2 : decode cX4_across 2 = .ok (.invokevirtual 55, 3) := by decide +kernel
theorem dX4_across_5 : decode cX4_across 5 = .ok (.ifCond .ne 6, 3) := by decide +kernel
theorem dX4_across_8 : decode cX4_across 8 = .ok (.ldc 68, 2) := by decide +kernel
theorem dX4_across_10 : decode cX4_across 10 = .ok (.ireturn, 1) := by decide +kernel
theorem dX4_across_11 : decode cX4_across 11 = .ok (.aload_n 0, 1) := by decide +kernel
theorem dX4_across_12 : decode cX4_across 12 = .ok (.getfield 10, 3) := by decide +kernel
theorem dX4_across_15 : decode cX4_across 15 = .ok (.iload_n 1, 1) := by decide +kernel
theorem dX4_across_16 : decode cX4_across 16 = .ok (.invokevirtual 83, 3) := by decide +kernel
theorem dX4_across_19 : decode cX4_across 19 = .ok (.ifCond .eq 14, 3) := by decide +kernel
theorem dX4_across_22 : decode cX4_across 22 = .ok (.aload_n 0, 1) := by decide +kernel
theorem dX4_across_23 : decode cX4_across 23 = .ok (.getfield 10, 3) := by decide +kernel
theorem dX4_across_26 : decode cX4_across 26 = .ok (.iload_n 1, 1) := by decide +kernel
theorem dX4_across_27 : decode cX4_across 27 = .ok (.invokevirtual 86, 3) := by decide +kernel
theorem dX4_across_30 : decode cX4_across 30 = .ok (.goto 5, 3) := by decide +kernel
theorem dX4_across_33 : decode cX4_across 33 = .ok (.ldc 89, 2) := by decide +kernel
theorem dX4_across_35 : decode cX4_across 35 = .ok (.ireturn, 1) := by decide +kernel
set_option maxRecDepth 20000 in
theorem ggX4_along_X4_isTime : GoodIn wsX4_along wsX4_isTime := goodIn_r _ [7, 8, 9, 6, 10] (by decide +kernel) (by decide +kernel)
set_option maxRecDepth 20000 in
theorem gX4_along_X4_isTime : GoodIn wsX4_along (va_wsS RX4 59 yX4_isTime wsX4_isTime) := goodIn_app (goodIn_of _ (by decide +kernel)) ggX4_along_X4_isTime
set_option maxRecDepth 20000 in
theorem ggX4_along_X0_timesHangTogether : GoodIn wsX4_along wsX0_timesHangTogether := goodIn_r _ [15, 16, 17, 18, 14, 19, 29, 30, 31, 32, 33, 34, 35, 36] (by decide +kernel) (by decide +kernel)
set_option maxRecDepth 20000 in
theorem gX4_along_X0_timesHangTogether : GoodIn wsX4_along (wsV RX4 90 RX0 yX0_timesHangTogether wsX0_timesHangTogether) := goodIn_app (goodIn_of _ (by decide +kernel)) ggX4_along_X0_timesHangTogether
set_option maxRecDepth 20000 in
theorem ggX4_along_X0_moreAlong : GoodIn wsX4_along wsX0_moreAlong := goodIn_r _ [23, 24, 17, 18, 14, 19, 29, 30, 31, 32, 33, 34, 35, 36] (by decide +kernel) (by decide +kernel)
set_option maxRecDepth 20000 in
theorem gX4_along_X0_moreAlong : GoodIn wsX4_along (wsV RX4 94 RX0 yX0_moreAlong wsX0_moreAlong) := goodIn_app (goodIn_of _ (by decide +kernel)) ggX4_along_X0_moreAlong
theorem dX4_along_0 : decode cX4_along 0 = .ok (.iload_n 1, 1) := by decide +kernel
theorem dX4_along_1 : decode cX4_along 1 = .ok (.invokestatic 59, 3) := by decide +kernel
theorem dX4_along_4 : decode cX4_along 4 = .ok (.ifCond .eq 10, 3) := by decide +kernel
theorem dX4_along_7 : decode cX4_along 7 = .ok (.iload_n 2, 1) := by decide +kernel
theorem dX4_along_8 : decode cX4_along 8 = .ok (.invokestatic 59, 3) := by decide +kernel
theorem dX4_along_11 : decode cX4_along 11 = .ok (.ifCond .ne 6, 3) := by decide +kernel
theorem dX4_along_14 : decode cX4_along 14 = .ok (.ldc 68, 2) := by decide +kernel
theorem dX4_along_16 : decode cX4_along 16 = .ok (.ireturn, 1) := by decide +kernel
theorem dX4_along_17 : decode cX4_along 17 = .ok (.aload_n 0, 1) := by decide +kernel
theorem dX4_along_18 : decode cX4_along 18 = .ok (.getfield 10, 3) := by decide +kernel
theorem dX4_along_21 : decode cX4_along 21 = .ok (.iload_n 1, 1) := by decide +kernel
theorem dX4_along_22 : decode cX4_along 22 = .ok (.iload_n 2, 1) := by decide +kernel
theorem dX4_along_23 : decode cX4_along 23 = .ok (.invokevirtual 90, 3) := by decide +kernel
theorem dX4_along_26 : decode cX4_along 26 = .ok (.ifCond .eq 15, 3) := by decide +kernel
theorem dX4_along_29 : decode cX4_along 29 = .ok (.aload_n 0, 1) := by decide +kernel
theorem dX4_along_30 : decode cX4_along 30 = .ok (.getfield 10, 3) := by decide +kernel
theorem dX4_along_33 : decode cX4_along 33 = .ok (.iload_n 1, 1) := by decide +kernel
theorem dX4_along_34 : decode cX4_along 34 = .ok (.iload_n 2, 1) := by decide +kernel
theorem dX4_along_35 : decode cX4_along 35 = .ok (.invokevirtual 94, 3) := by decide +kernel
theorem dX4_along_38 : decode cX4_along 38 = .ok (.goto 5, 3) := by decide +kernel
theorem dX4_along_41 : decode cX4_along 41 = .ok (.ldc 89, 2) := by decide +kernel
theorem dX4_along_43 : decode cX4_along 43 = .ok (.ireturn, 1) := by decide +kernel
set_option maxRecDepth 20000 in
theorem ggX4_groups_X2_places : GoodIn wsX4_groups wsX2_places := goodIn_r _ [7, 8, 23, 24, 25, 26, 27, 28, 29, 30] (by decide +kernel) (by decide +kernel)
set_option maxRecDepth 20000 in
theorem gX4_groups_X2_places : GoodIn wsX4_groups (wsV RX4 43 RX2 yX2_places wsX2_places) := goodIn_app (goodIn_of _ (by decide +kernel)) ggX4_groups_X2_places
set_option maxRecDepth 20000 in
theorem ggX4_groups_X0_countGroups : GoodIn wsX4_groups wsX0_countGroups := goodIn_r _ [13, 14, 15, 16, 12, 17, 18, 31, 32, 33, 34, 35, 36, 37, 38] (by decide +kernel) (by decide +kernel)
set_option maxRecDepth 20000 in
theorem gX4_groups_X0_countGroups : GoodIn wsX4_groups (wsV RX4 98 RX0 yX0_countGroups wsX0_countGroups) := goodIn_app (goodIn_of _ (by decide +kernel)) ggX4_groups_X0_countGroups
theorem dX4_groups_0 : decode cX4_groups 0 = .ok (.aload_n 0, 1) := by decide +kernel
theorem dX4_groups_1 : decode cX4_groups 1 = .ok (.getfield 10, 3) := by decide +kernel
theorem dX4_groups_4 : decode cX4_groups 4 = .ok (.aload_n 0, 1) := by decide +kernel
theorem dX4_groups_5 : decode cX4_groups 5 = .ok (.getfield 19, 3) := by decide +kernel
theorem dX4_groups_8 : decode cX4_groups 8 = .ok (.invokevirtual 43, 3) := by decide +kernel
theorem dX4_groups_11 : decode cX4_groups 11 = .ok (.invokevirtual 98, 3) := by decide +kernel
theorem dX4_groups_14 : decode cX4_groups 14 = .ok (.ireturn, 1) := by decide +kernel
set_option maxRecDepth 20000 in
theorem ggX4_take_X2_places : GoodIn wsX4_take wsX2_places := goodIn_r _ [7, 8, 33, 34, 35, 36, 37, 38, 39, 40] (by decide +kernel) (by decide +kernel)
set_option maxRecDepth 20000 in
theorem gX4_take_X2_places : GoodIn wsX4_take (wsV RX4 43 RX2 yX2_places wsX2_places) := goodIn_app (goodIn_of _ (by decide +kernel)) ggX4_take_X2_places
set_option maxRecDepth 20000 in
theorem ggX4_take_X0_hasAcross : GoodIn wsX4_take wsX0_hasAcross := goodIn_r _ [13, 14, 41, 42, 43, 44, 45, 46, 47, 48] (by decide +kernel) (by decide +kernel)
set_option maxRecDepth 20000 in
theorem gX4_take_X0_hasAcross : GoodIn wsX4_take (wsV RX4 83 RX0 yX0_hasAcross wsX0_hasAcross) := goodIn_app (goodIn_of _ (by decide +kernel)) ggX4_take_X0_hasAcross
set_option maxRecDepth 20000 in
theorem ggX4_take_X0_acrossOf : GoodIn wsX4_take wsX0_acrossOf := goodIn_r _ [18, 19, 41, 42, 43, 44, 45, 46, 47, 48] (by decide +kernel) (by decide +kernel)
set_option maxRecDepth 20000 in
theorem gX4_take_X0_acrossOf : GoodIn wsX4_take (wsV RX4 86 RX0 yX0_acrossOf wsX0_acrossOf) := goodIn_app (goodIn_of _ (by decide +kernel)) ggX4_take_X0_acrossOf
set_option maxRecDepth 20000 in
theorem ggX4_take_X4_within : GoodIn wsX4_take wsX4_within := goodIn_r _ [23] (by decide +kernel) (by decide +kernel)
set_option maxRecDepth 20000 in
theorem gX4_take_X4_within : GoodIn wsX4_take (va_wsS RX4 39 yX4_within wsX4_within) := goodIn_app (goodIn_of _ (by decide +kernel)) ggX4_take_X4_within
set_option maxRecDepth 20000 in
theorem ggX4_take_X2_putBase : GoodIn wsX4_take wsX2_putBase := goodIn_r _ [27, 28, 33, 34, 35, 36, 37, 38, 39, 40] (by decide +kernel) (by decide +kernel)
set_option maxRecDepth 20000 in
theorem gX4_take_X2_putBase : GoodIn wsX4_take (wsV RX4 101 RX2 yX2_putBase wsX2_putBase) := goodIn_app (goodIn_of _ (by decide +kernel)) ggX4_take_X2_putBase
theorem dX4_take_0 : decode cX4_take 0 = .ok (.aload_n 0, 1) := by decide +kernel
theorem dX4_take_1 : decode cX4_take 1 = .ok (.getfield 19, 3) := by decide +kernel
theorem dX4_take_4 : decode cX4_take 4 = .ok (.invokevirtual 43, 3) := by decide +kernel
theorem dX4_take_7 : decode cX4_take 7 = .ok (.istore_n 1, 1) := by decide +kernel
theorem dX4_take_8 : decode cX4_take 8 = .ok (.iconst 0, 1) := by decide +kernel
theorem dX4_take_9 : decode cX4_take 9 = .ok (.istore_n 2, 1) := by decide +kernel
theorem dX4_take_10 : decode cX4_take 10 = .ok (.iload_n 2, 1) := by decide +kernel
theorem dX4_take_11 : decode cX4_take 11 = .ok (.iload_n 1, 1) := by decide +kernel
theorem dX4_take_12 : decode cX4_take 12 = .ok (.if_icmp .ge 43, 3) := by decide +kernel
theorem dX4_take_15 : decode cX4_take 15 = .ok (.aload_n 0, 1) := by decide +kernel
theorem dX4_take_16 : decode cX4_take 16 = .ok (.getfield 10, 3) := by decide +kernel
theorem dX4_take_19 : decode cX4_take 19 = .ok (.iload_n 2, 1) := by decide +kernel
theorem dX4_take_20 : decode cX4_take 20 = .ok (.invokevirtual 83, 3) := by decide +kernel
theorem dX4_take_23 : decode cX4_take 23 = .ok (.ifCond .eq 23, 3) := by decide +kernel
theorem dX4_take_26 : decode cX4_take 26 = .ok (.aload_n 0, 1) := by decide +kernel
theorem dX4_take_27 : decode cX4_take 27 = .ok (.getfield 10, 3) := by decide +kernel
theorem dX4_take_30 : decode cX4_take 30 = .ok (.iload_n 2, 1) := by decide +kernel
theorem dX4_take_31 : decode cX4_take 31 = .ok (.invokevirtual 86, 3) := by decide +kernel
theorem dX4_take_34 : decode cX4_take 34 = .ok (.sipush (-2000), 3) := by decide +kernel
theorem dX4_take_37 : decode cX4_take 37 = .ok (.sipush 2000, 3) := by decide +kernel
theorem dX4_take_40 : decode cX4_take 40 = .ok (.invokestatic 39, 3) := by decide +kernel
theorem dX4_take_43 : decode cX4_take 43 = .ok (.ifCond .ne 6, 3) := by decide +kernel
theorem dX4_take_46 : decode cX4_take 46 = .ok (.bipush (-5), 2) := by decide +kernel
theorem dX4_take_48 : decode cX4_take 48 = .ok (.ireturn, 1) := by decide +kernel
theorem dX4_take_49 : decode cX4_take 49 = .ok (.iinc 2 1, 3) := by decide +kernel
theorem dX4_take_52 : decode cX4_take 52 = .ok (.goto (-42), 3) := by decide +kernel
theorem dX4_take_55 : decode cX4_take 55 = .ok (.iconst 0, 1) := by decide +kernel
theorem dX4_take_56 : decode cX4_take 56 = .ok (.istore_n 2, 1) := by decide +kernel
theorem dX4_take_57 : decode cX4_take 57 = .ok (.iload_n 2, 1) := by decide +kernel
theorem dX4_take_58 : decode cX4_take 58 = .ok (.iload_n 1, 1) := by decide +kernel
theorem dX4_take_59 : decode cX4_take 59 = .ok (.if_icmp .ge 25, 3) := by decide +kernel
theorem dX4_take_62 : decode cX4_take 62 = .ok (.aload_n 0, 1) := by decide +kernel
theorem dX4_take_63 : decode cX4_take 63 = .ok (.getfield 19, 3) := by decide +kernel
theorem dX4_take_66 : decode cX4_take 66 = .ok (.iload_n 2, 1) := by decide +kernel
theorem dX4_take_67 : decode cX4_take 67 = .ok (.aload_n 0, 1) := by decide +kernel
theorem dX4_take_68 : decode cX4_take 68 = .ok (.getfield 10, 3) := by decide +kernel
theorem dX4_take_71 : decode cX4_take 71 = .ok (.iload_n 2, 1) := by decide +kernel
theorem dX4_take_72 : decode cX4_take 72 = .ok (.invokevirtual 86, 3) := by decide +kernel
theorem dX4_take_75 : decode cX4_take 75 = .ok (.invokevirtual 101, 3) := by decide +kernel
theorem dX4_take_78 : decode cX4_take 78 = .ok (.iinc 2 1, 3) := by decide +kernel
theorem dX4_take_81 : decode cX4_take 81 = .ok (.goto (-24), 3) := by decide +kernel
theorem dX4_take_84 : decode cX4_take 84 = .ok (.iconst 1, 1) := by decide +kernel
theorem dX4_take_85 : decode cX4_take 85 = .ok (.ireturn, 1) := by decide +kernel
set_option maxRecDepth 20000 in
theorem ggX4_clear_X0_count : GoodIn wsX4_clear wsX0_count := goodIn_r _ [6, 7, 19, 20, 21, 22, 23, 24, 25, 26] (by decide +kernel) (by decide +kernel)
set_option maxRecDepth 20000 in
theorem gX4_clear_X0_count : GoodIn wsX4_clear (wsV RX4 62 RX0 yX0_count wsX0_count) := goodIn_app (goodIn_of _ (by decide +kernel)) ggX4_clear_X0_count
set_option maxRecDepth 20000 in
theorem ggX4_clear_X0_forget : GoodIn wsX4_clear wsX0_forget := goodIn_r _ [11, 7, 12, 13, 14, 19, 20, 21, 22, 23, 24, 25, 26] (by decide +kernel) (by decide +kernel)
set_option maxRecDepth 20000 in
theorem gX4_clear_X0_forget : GoodIn wsX4_clear (wsV RX4 47 RX0 yX0_forget wsX0_forget) := goodIn_app (goodIn_of _ (by decide +kernel)) ggX4_clear_X0_forget
theorem dX4_clear_0 : decode cX4_clear 0 = .ok (.aload_n 0, 1) := by decide +kernel
theorem dX4_clear_1 : decode cX4_clear 1 = .ok (.getfield 10, 3) := by decide +kernel
theorem dX4_clear_4 : decode cX4_clear 4 = .ok (.invokevirtual 62, 3) := by decide +kernel
theorem dX4_clear_7 : decode cX4_clear 7 = .ok (.istore_n 1, 1) := by decide +kernel
theorem dX4_clear_8 : decode cX4_clear 8 = .ok (.aload_n 0, 1) := by decide +kernel
theorem dX4_clear_9 : decode cX4_clear 9 = .ok (.getfield 10, 3) := by decide +kernel
theorem dX4_clear_12 : decode cX4_clear 12 = .ok (.invokevirtual 47, 3) := by decide +kernel
theorem dX4_clear_15 : decode cX4_clear 15 = .ok (.iload_n 1, 1) := by decide +kernel
theorem dX4_clear_16 : decode cX4_clear 16 = .ok (.ireturn, 1) := by decide +kernel
set_option maxRecDepth 20000 in
theorem ggX4_laws_X4_within : GoodIn wsX4_laws wsX4_within := goodIn_r _ [5] (by decide +kernel) (by decide +kernel)
set_option maxRecDepth 20000 in
theorem gX4_laws_X4_within : GoodIn wsX4_laws (va_wsS RX4 39 yX4_within wsX4_within) := goodIn_app (goodIn_of _ (by decide +kernel)) ggX4_laws_X4_within
set_option maxRecDepth 20000 in
theorem ggX4_laws_X2_isLawful : GoodIn wsX4_laws wsX2_isLawful := goodIn_r _ [10, 11, 12, 13, 14, 15, 16, 27, 28, 29, 30, 31, 32, 33, 34] (by decide +kernel) (by decide +kernel)
set_option maxRecDepth 20000 in
theorem gX4_laws_X2_isLawful : GoodIn wsX4_laws (wsV RX4 105 RX2 yX2_isLawful wsX2_isLawful) := goodIn_app (goodIn_of _ (by decide +kernel)) ggX4_laws_X2_isLawful
set_option maxRecDepth 20000 in
theorem ggX4_laws_X2_putLaws : GoodIn wsX4_laws wsX2_putLaws := goodIn_r _ [20, 21, 22, 27, 28, 29, 30, 31, 32, 33, 34] (by decide +kernel) (by decide +kernel)
set_option maxRecDepth 20000 in
theorem gX4_laws_X2_putLaws : GoodIn wsX4_laws (wsV RX4 108 RX2 yX2_putLaws wsX2_putLaws) := goodIn_app (goodIn_of _ (by decide +kernel)) ggX4_laws_X2_putLaws
theorem dX4_laws_0 : decode cX4_laws 0 = .ok (.iload_n 1, 1) := by decide +kernel
theorem dX4_laws_1 : decode cX4_laws 1 = .ok (.iconst 0, 1) := by decide +kernel
theorem dX4_laws_2 : decode cX4_laws 2 = .ok (.bipush 20, 2) := by decide +kernel
theorem dX4_laws_4 : decode cX4_laws 4 = .ok (.invokestatic 39, 3) := by decide +kernel
theorem dX4_laws_7 : decode cX4_laws 7 = .ok (.ifCond .eq 13, 3) := by decide +kernel
theorem dX4_laws_10 : decode cX4_laws 10 = .ok (.iload_n 2, 1) := by decide +kernel
theorem dX4_laws_11 : decode cX4_laws 11 = .ok (.iconst 0, 1) := by decide +kernel
theorem dX4_laws_12 : decode cX4_laws 12 = .ok (.bipush 40, 2) := by decide +kernel
theorem dX4_laws_14 : decode cX4_laws 14 = .ok (.invokestatic 39, 3) := by decide +kernel
theorem dX4_laws_17 : decode cX4_laws 17 = .ok (.ifCond .ne 6, 3) := by decide +kernel
theorem dX4_laws_20 : decode cX4_laws 20 = .ok (.bipush (-2), 2) := by decide +kernel
theorem dX4_laws_22 : decode cX4_laws 22 = .ok (.ireturn, 1) := by decide +kernel
theorem dX4_laws_23 : decode cX4_laws 23 = .ok (.aload_n 0, 1) := by decide +kernel
theorem dX4_laws_24 : decode cX4_laws 24 = .ok (.getfield 19, 3) := by decide +kernel
theorem dX4_laws_27 : decode cX4_laws 27 = .ok (.iload_n 1, 1) := by decide +kernel
theorem dX4_laws_28 : decode cX4_laws 28 = .ok (.iload_n 2, 1) := by decide +kernel
theorem dX4_laws_29 : decode cX4_laws 29 = .ok (.invokevirtual 105, 3) := by decide +kernel
theorem dX4_laws_32 : decode cX4_laws 32 = .ok (.ifCond .ne 6, 3) := by decide +kernel
theorem dX4_laws_35 : decode cX4_laws 35 = .ok (.bipush (-5), 2) := by decide +kernel
theorem dX4_laws_37 : decode cX4_laws 37 = .ok (.ireturn, 1) := by decide +kernel
theorem dX4_laws_38 : decode cX4_laws 38 = .ok (.aload_n 0, 1) := by decide +kernel
theorem dX4_laws_39 : decode cX4_laws 39 = .ok (.getfield 19, 3) := by decide +kernel
theorem dX4_laws_42 : decode cX4_laws 42 = .ok (.iload_n 1, 1) := by decide +kernel
theorem dX4_laws_43 : decode cX4_laws 43 = .ok (.iload_n 2, 1) := by decide +kernel
theorem dX4_laws_44 : decode cX4_laws 44 = .ok (.invokevirtual 108, 3) := by decide +kernel
theorem dX4_laws_47 : decode cX4_laws 47 = .ok (.iconst 1, 1) := by decide +kernel
theorem dX4_laws_48 : decode cX4_laws 48 = .ok (.ireturn, 1) := by decide +kernel
set_option maxRecDepth 20000 in
theorem ggX4_spread_X4_within : GoodIn wsX4_spread wsX4_within := goodIn_r _ [5] (by decide +kernel) (by decide +kernel)
set_option maxRecDepth 20000 in
theorem gX4_spread_X4_within : GoodIn wsX4_spread (va_wsS RX4 39 yX4_within wsX4_within) := goodIn_app (goodIn_of _ (by decide +kernel)) ggX4_spread_X4_within
set_option maxRecDepth 20000 in
theorem ggX4_spread_X2_putSpread : GoodIn wsX4_spread wsX2_putSpread := goodIn_r _ [10, 11, 12, 17, 18, 19, 20, 21, 22, 23, 24] (by decide +kernel) (by decide +kernel)
set_option maxRecDepth 20000 in
theorem gX4_spread_X2_putSpread : GoodIn wsX4_spread (wsV RX4 111 RX2 yX2_putSpread wsX2_putSpread) := goodIn_app (goodIn_of _ (by decide +kernel)) ggX4_spread_X2_putSpread
theorem dX4_spread_0 : decode cX4_spread 0 = .ok (.iload_n 1, 1) := by decide +kernel
theorem dX4_spread_1 : decode cX4_spread 1 = .ok (.iconst 1, 1) := by decide +kernel
theorem dX4_spread_2 : decode cX4_spread 2 = .ok (.bipush 20, 2) := by decide +kernel
theorem dX4_spread_4 : decode cX4_spread 4 = .ok (.invokestatic 39, 3) := by decide +kernel
theorem dX4_spread_7 : decode cX4_spread 7 = .ok (.ifCond .eq 13, 3) := by decide +kernel
theorem dX4_spread_10 : decode cX4_spread 10 = .ok (.iload_n 2, 1) := by decide +kernel
theorem dX4_spread_11 : decode cX4_spread 11 = .ok (.bipush (-5), 2) := by decide +kernel
theorem dX4_spread_13 : decode cX4_spread 13 = .ok (.iconst 5, 1) := by decide +kernel
theorem dX4_spread_14 : decode cX4_spread 14 = .ok (.invokestatic 39, 3) := by decide +kernel
theorem dX4_spread_17 : decode cX4_spread 17 = .ok (.ifCond .ne 6, 3) := by decide +kernel
theorem dX4_spread_20 : decode cX4_spread 20 = .ok (.bipush (-2), 2) := by decide +kernel
theorem dX4_spread_22 : decode cX4_spread 22 = .ok (.ireturn, 1) := by decide +kernel
theorem dX4_spread_23 : decode cX4_spread 23 = .ok (.aload_n 0, 1) := by decide +kernel
theorem dX4_spread_24 : decode cX4_spread 24 = .ok (.getfield 19, 3) := by decide +kernel
theorem dX4_spread_27 : decode cX4_spread 27 = .ok (.iload_n 1, 1) := by decide +kernel
theorem dX4_spread_28 : decode cX4_spread 28 = .ok (.iload_n 2, 1) := by decide +kernel
theorem dX4_spread_29 : decode cX4_spread 29 = .ok (.invokevirtual 111, 3) := by decide +kernel
theorem dX4_spread_32 : decode cX4_spread 32 = .ok (.iconst 1, 1) := by decide +kernel
theorem dX4_spread_33 : decode cX4_spread 33 = .ok (.ireturn, 1) := by decide +kernel
set_option maxRecDepth 20000 in
theorem ggX4_base_X4_isPlace : GoodIn wsX4_base wsX4_isPlace := goodIn_r _ [6, 1, 7, 8, 9, 10, 11, 12, 13, 14, 5, 15, 21, 22, 23, 24, 25, 26, 27, 28, 29, 30, 31, 32] (by decide +kernel) (by decide +kernel)
set_option maxRecDepth 20000 in
theorem gX4_base_X4_isPlace : GoodIn wsX4_base (wsV RX4 55 RX4 yX4_isPlace wsX4_isPlace) := goodIn_app (goodIn_of _ (by decide +kernel)) ggX4_base_X4_isPlace
set_option maxRecDepth 20000 in
theorem ggX4_base_X4_within : GoodIn wsX4_base wsX4_within := goodIn_r _ [15] (by decide +kernel) (by decide +kernel)
set_option maxRecDepth 20000 in
theorem gX4_base_X4_within : GoodIn wsX4_base (va_wsS RX4 39 yX4_within wsX4_within) := goodIn_app (goodIn_of _ (by decide +kernel)) ggX4_base_X4_within
set_option maxRecDepth 20000 in
theorem ggX4_base_X2_putBase : GoodIn wsX4_base wsX2_putBase := goodIn_r _ [19, 20, 25, 26, 27, 28, 29, 30, 31, 32] (by decide +kernel) (by decide +kernel)
set_option maxRecDepth 20000 in
theorem gX4_base_X2_putBase : GoodIn wsX4_base (wsV RX4 101 RX2 yX2_putBase wsX2_putBase) := goodIn_app (goodIn_of _ (by decide +kernel)) ggX4_base_X2_putBase
theorem dX4_base_0 : decode cX4_base 0 = .ok (.aload_n 0, 1) := by decide +kernel
theorem dX4_base_1 : decode cX4_base 1 = .ok (.iload_n 1, 1) := by decide +kernel
theorem dX4_base_2 : decode cX4_base 2 = .ok (.invokevirtual 55, 3) := by decide +kernel
theorem dX4_base_5 : decode cX4_base 5 = .ok (.ifCond .ne 5, 3) := by decide +kernel
theorem dX4_base_8 : decode cX4_base 8 = .ok (.iconst (-1), 1) := by decide +kernel
theorem dX4_base_9 : decode cX4_base 9 = .ok (.ireturn, 1) := by decide +kernel
theorem dX4_base_10 : decode cX4_base 10 = .ok (.iload_n 2, 1) := by decide +kernel
theorem dX4_base_11 : decode cX4_base 11 = .ok (.sipush (-2000), 3) := by decide +kernel
theorem dX4_base_14 : decode cX4_base 14 = .ok (.sipush 2000, 3) := by decide +kernel
theorem dX4_base_17 : decode cX4_base 17 = .ok (.invokestatic 39, 3) := by decide +kernel
theorem dX4_base_20 : decode cX4_base 20 = .ok (.ifCond .ne 6, 3) := by decide +kernel
theorem dX4_base_23 : decode cX4_base 23 = .ok (.bipush (-2), 2) := by decide +kernel
theorem dX4_base_25 : decode cX4_base 25 = .ok (.ireturn, 1) := by decide +kernel
theorem dX4_base_26 : decode cX4_base 26 = .ok (.aload_n 0, 1) := by decide +kernel
theorem dX4_base_27 : decode cX4_base 27 = .ok (.getfield 19, 3) := by decide +kernel
theorem dX4_base_30 : decode cX4_base 30 = .ok (.iload_n 1, 1) := by decide +kernel
theorem dX4_base_31 : decode cX4_base 31 = .ok (.iload_n 2, 1) := by decide +kernel
theorem dX4_base_32 : decode cX4_base 32 = .ok (.invokevirtual 101, 3) := by decide +kernel
theorem dX4_base_35 : decode cX4_base 35 = .ok (.iconst 1, 1) := by decide +kernel
theorem dX4_base_36 : decode cX4_base 36 = .ok (.ireturn, 1) := by decide +kernel
set_option maxRecDepth 20000 in
theorem ggX4_set_X4_isPlace : GoodIn wsX4_set wsX4_isPlace := goodIn_r _ [6, 1, 7, 8, 9, 10, 11, 12, 13, 14, 5, 15, 31, 32, 33, 34, 35, 36, 37, 38, 39, 40, 41, 42] (by decide +kernel) (by decide +kernel)
set_option maxRecDepth 20000 in
theorem gX4_set_X4_isPlace : GoodIn wsX4_set (wsV RX4 55 RX4 yX4_isPlace wsX4_isPlace) := goodIn_app (goodIn_of _ (by decide +kernel)) ggX4_set_X4_isPlace
set_option maxRecDepth 20000 in
theorem ggX4_set_X4_within : GoodIn wsX4_set wsX4_within := goodIn_r _ [15] (by decide +kernel) (by decide +kernel)
set_option maxRecDepth 20000 in
theorem gX4_set_X4_within : GoodIn wsX4_set (va_wsS RX4 39 yX4_within wsX4_within) := goodIn_app (goodIn_of _ (by decide +kernel)) ggX4_set_X4_within
set_option maxRecDepth 20000 in
theorem ggX4_set_X2_trySetting : GoodIn wsX4_set wsX2_trySetting := goodIn_r _ [19, 20, 21, 22, 23, 24, 25, 10, 26, 12, 27, 28, 29, 30, 35, 36, 37, 38, 39, 40, 41, 42] (by decide +kernel) (by decide +kernel)
set_option maxRecDepth 20000 in
theorem gX4_set_X2_trySetting : GoodIn wsX4_set (wsV RX4 114 RX2 yX2_trySetting wsX2_trySetting) := goodIn_app (goodIn_of _ (by decide +kernel)) ggX4_set_X2_trySetting
theorem dX4_set_0 : decode cX4_set 0 = .ok (.aload_n 0, 1) := by decide +kernel
theorem dX4_set_1 : decode cX4_set 1 = .ok (.iload_n 1, 1) := by decide +kernel
theorem dX4_set_2 : decode cX4_set 2 = .ok (.invokevirtual 55, 3) := by decide +kernel
theorem dX4_set_5 : decode cX4_set 5 = .ok (.ifCond .ne 5, 3) := by decide +kernel
theorem dX4_set_8 : decode cX4_set 8 = .ok (.iconst (-1), 1) := by decide +kernel
theorem dX4_set_9 : decode cX4_set 9 = .ok (.ireturn, 1) := by decide +kernel
theorem dX4_set_10 : decode cX4_set 10 = .ok (.iload_n 2, 1) := by decide +kernel
theorem dX4_set_11 : decode cX4_set 11 = .ok (.bipush (-10), 2) := by decide +kernel
theorem dX4_set_13 : decode cX4_set 13 = .ok (.bipush 10, 2) := by decide +kernel
theorem dX4_set_15 : decode cX4_set 15 = .ok (.invokestatic 39, 3) := by decide +kernel
theorem dX4_set_18 : decode cX4_set 18 = .ok (.ifCond .ne 6, 3) := by decide +kernel
theorem dX4_set_21 : decode cX4_set 21 = .ok (.bipush (-2), 2) := by decide +kernel
theorem dX4_set_23 : decode cX4_set 23 = .ok (.ireturn, 1) := by decide +kernel
theorem dX4_set_24 : decode cX4_set 24 = .ok (.aload_n 0, 1) := by decide +kernel
theorem dX4_set_25 : decode cX4_set 25 = .ok (.getfield 19, 3) := by decide +kernel
theorem dX4_set_28 : decode cX4_set 28 = .ok (.iload_n 1, 1) := by decide +kernel
theorem dX4_set_29 : decode cX4_set 29 = .ok (.iload_n 2, 1) := by decide +kernel
theorem dX4_set_30 : decode cX4_set 30 = .ok (.invokevirtual 114, 3) := by decide +kernel
theorem dX4_set_33 : decode cX4_set 33 = .ok (.ifCond .eq 7, 3) := by decide +kernel
theorem dX4_set_36 : decode cX4_set 36 = .ok (.iconst 1, 1) := by decide +kernel
theorem dX4_set_37 : decode cX4_set 37 = .ok (.goto 5, 3) := by decide +kernel
theorem dX4_set_40 : decode cX4_set 40 = .ok (.bipush (-5), 2) := by decide +kernel
theorem dX4_set_42 : decode cX4_set 42 = .ok (.ireturn, 1) := by decide +kernel
set_option maxRecDepth 20000 in
theorem ggX4_about_X4_isPlace : GoodIn wsX4_about wsX4_isPlace := goodIn_r _ [8, 2, 9, 10, 11, 12, 13, 14, 15, 16, 7, 17, 34, 35, 36, 37, 38, 39, 40, 41, 42, 43, 44, 45] (by decide +kernel) (by decide +kernel)
set_option maxRecDepth 20000 in
theorem gX4_about_X4_isPlace : GoodIn wsX4_about (wsV RX4 55 RX4 yX4_isPlace wsX4_isPlace) := goodIn_app (goodIn_of _ (by decide +kernel)) ggX4_about_X4_isPlace
set_option maxRecDepth 20000 in
theorem ggX4_about_X2_settingOf : GoodIn wsX4_about wsX2_settingOf := goodIn_r _ [21, 22, 38, 39, 40, 41, 42, 43, 44, 45] (by decide +kernel) (by decide +kernel)
set_option maxRecDepth 20000 in
theorem gX4_about_X2_settingOf : GoodIn wsX4_about (wsV RX4 117 RX2 yX2_settingOf wsX2_settingOf) := goodIn_app (goodIn_of _ (by decide +kernel)) ggX4_about_X2_settingOf
set_option maxRecDepth 20000 in
theorem ggX4_about_X2_baseOf : GoodIn wsX4_about wsX2_baseOf := goodIn_r _ [26, 27, 38, 39, 40, 41, 42, 43, 44, 45] (by decide +kernel) (by decide +kernel)
set_option maxRecDepth 20000 in
theorem gX4_about_X2_baseOf : GoodIn wsX4_about (wsV RX4 120 RX2 yX2_baseOf wsX2_baseOf) := goodIn_app (goodIn_of _ (by decide +kernel)) ggX4_about_X2_baseOf
set_option maxRecDepth 20000 in
theorem ggX4_about_X2_errorOf : GoodIn wsX4_about wsX2_errorOf := goodIn_r _ [31, 27, 32, 22, 33, 14, 38, 39, 40, 41, 42, 43, 44, 45] (by decide +kernel) (by decide +kernel)
set_option maxRecDepth 20000 in
theorem gX4_about_X2_errorOf : GoodIn wsX4_about (wsV RX4 123 RX2 yX2_errorOf wsX2_errorOf) := goodIn_app (goodIn_of _ (by decide +kernel)) ggX4_about_X2_errorOf
theorem dX4_about_0 : decode cX4_about 0 = .ok (.aload_n 0, 1) := by decide +kernel
theorem dX4_about_1 : decode cX4_about 1 = .ok (.iload_n 1, 1) := by decide +kernel
theorem dX4_about_2 : decode cX4_about 2 = .ok (.invokevirtual 55, 3) := by decide +kernel
theorem dX4_about_5 : decode cX4_about 5 = .ok (.ifCond .ne 6, 3) := by decide +kernel
theorem dX4_about_8 : decode cX4_about 8 = .ok (.ldc 68, 2) := by decide +kernel
theorem dX4_about_10 : decode cX4_about 10 = .ok (.ireturn, 1) := by decide +kernel
theorem dX4_about_11 : decode cX4_about 11 = .ok (.iload_n 2, 1) := by decide +kernel
theorem dX4_about_12 : decode cX4_about 12 = .ok (.tableswitch 55 0 2 #[28, 37, 46], 28) := by decide +kernel
theorem dX4_about_40 : decode cX4_about 40 = .ok (.aload_n 0, 1) := by decide +kernel
theorem dX4_about_41 : decode cX4_about 41 = .ok (.getfield 19, 3) := by decide +kernel
theorem dX4_about_44 : decode cX4_about 44 = .ok (.iload_n 1, 1) := by decide +kernel
theorem dX4_about_45 : decode cX4_about 45 = .ok (.invokevirtual 117, 3) := by decide +kernel
theorem dX4_about_48 : decode cX4_about 48 = .ok (.ireturn, 1) := by decide +kernel
theorem dX4_about_49 : decode cX4_about 49 = .ok (.aload_n 0, 1) := by decide +kernel
theorem dX4_about_50 : decode cX4_about 50 = .ok (.getfield 19, 3) := by decide +kernel
theorem dX4_about_53 : decode cX4_about 53 = .ok (.iload_n 1, 1) := by decide +kernel
theorem dX4_about_54 : decode cX4_about 54 = .ok (.invokevirtual 120, 3) := by decide +kernel
theorem dX4_about_57 : decode cX4_about 57 = .ok (.ireturn, 1) := by decide +kernel
theorem dX4_about_58 : decode cX4_about 58 = .ok (.aload_n 0, 1) := by decide +kernel
theorem dX4_about_59 : decode cX4_about 59 = .ok (.getfield 19, 3) := by decide +kernel
theorem dX4_about_62 : decode cX4_about 62 = .ok (.iload_n 1, 1) := by decide +kernel
theorem dX4_about_63 : decode cX4_about 63 = .ok (.invokevirtual 123, 3) := by decide +kernel
theorem dX4_about_66 : decode cX4_about 66 = .ok (.ireturn, 1) := by decide +kernel
theorem dX4_about_67 : decode cX4_about 67 = .ok (.ldc 82, 2) := by decide +kernel
theorem dX4_about_69 : decode cX4_about 69 = .ok (.ireturn, 1) := by decide +kernel
set_option maxRecDepth 20000 in
theorem ggX4_uneven_X4_within : GoodIn wsX4_uneven wsX4_within := goodIn_r _ [5] (by decide +kernel) (by decide +kernel)
set_option maxRecDepth 20000 in
theorem gX4_uneven_X4_within : GoodIn wsX4_uneven (va_wsS RX4 39 yX4_within wsX4_within) := goodIn_app (goodIn_of _ (by decide +kernel)) ggX4_uneven_X4_within
set_option maxRecDepth 20000 in
theorem ggX4_uneven_X2_unevenness : GoodIn wsX4_uneven wsX2_unevenness := goodIn_r _ [10, 11, 12, 13, 14, 9, 15, 16, 17, 18, 19, 20, 21, 22, 23, 24, 25, 26, 27, 28, 29, 30, 31, 32, 33, 38, 39, 40, 41, 42, 43, 44, 45] (by decide +kernel) (by decide +kernel)
set_option maxRecDepth 20000 in
theorem gX4_uneven_X2_unevenness : GoodIn wsX4_uneven (wsV RX4 126 RX2 yX2_unevenness wsX2_unevenness) := goodIn_app (goodIn_of _ (by decide +kernel)) ggX4_uneven_X2_unevenness
theorem dX4_uneven_0 : decode cX4_uneven 0 = .ok (.iload_n 1, 1) := by decide +kernel
theorem dX4_uneven_1 : decode cX4_uneven 1 = .ok (.iconst 0, 1) := by decide +kernel
theorem dX4_uneven_2 : decode cX4_uneven 2 = .ok (.iconst 1, 1) := by decide +kernel
theorem dX4_uneven_3 : decode cX4_uneven 3 = .ok (.invokestatic 39, 3) := by decide +kernel
theorem dX4_uneven_6 : decode cX4_uneven 6 = .ok (.ifCond .ne 6, 3) := by decide +kernel
theorem dX4_uneven_9 : decode cX4_uneven 9 = .ok (.bipush (-2), 2) := by decide +kernel
theorem dX4_uneven_11 : decode cX4_uneven 11 = .ok (.ireturn, 1) := by decide +kernel
theorem dX4_uneven_12 : decode cX4_uneven 12 = .ok (.aload_n 0, 1) := by decide +kernel
theorem dX4_uneven_13 : decode cX4_uneven 13 = .ok (.getfield 19, 3) := by decide +kernel
theorem dX4_uneven_16 : decode cX4_uneven 16 = .ok (.iload_n 1, 1) := by decide +kernel
theorem dX4_uneven_17 : decode cX4_uneven 17 = .ok (.ifCond .ne 7, 3) := by decide +kernel
theorem dX4_uneven_20 : decode cX4_uneven 20 = .ok (.iconst 1, 1) := by decide +kernel
theorem dX4_uneven_21 : decode cX4_uneven 21 = .ok (.goto 4, 3) := by decide +kernel
theorem dX4_uneven_24 : decode cX4_uneven 24 = .ok (.iconst 0, 1) := by decide +kernel
theorem dX4_uneven_25 : decode cX4_uneven 25 = .ok (.invokevirtual 126, 3) := by decide +kernel
theorem dX4_uneven_28 : decode cX4_uneven 28 = .ok (.ireturn, 1) := by decide +kernel
set_option maxRecDepth 20000 in
theorem ggX4_best_X4_within : GoodIn wsX4_best wsX4_within := goodIn_r _ [5] (by decide +kernel) (by decide +kernel)
set_option maxRecDepth 20000 in
theorem gX4_best_X4_within : GoodIn wsX4_best (va_wsS RX4 39 yX4_within wsX4_within) := goodIn_app (goodIn_of _ (by decide +kernel)) ggX4_best_X4_within
set_option maxRecDepth 20000 in
theorem ggX4_best_X2_settle : GoodIn wsX4_best wsX2_settle := goodIn_r _ [10, 11, 12, 13, 14, 15, 9, 16, 17, 18, 19, 20, 21, 22, 23, 24, 25, 26, 27, 28, 29, 30, 31, 32, 33, 34, 35, 36, 37, 38, 39, 40, 41, 42, 43, 44, 45, 46, 47, 48, 49, 50, 51, 52, 53, 54, 55, 56, 57, 58, 59, 60, 61, 62, 63, 64, 65, 66, 67, 68, 69, 70, 71, 76, 77, 78, 79, 80, 81, 82, 83] (by decide +kernel) (by decide +kernel)
set_option maxRecDepth 20000 in
theorem gX4_best_X2_settle : GoodIn wsX4_best (wsV RX4 130 RX2 yX2_settle wsX2_settle) := goodIn_app (goodIn_of _ (by decide +kernel)) ggX4_best_X2_settle
theorem dX4_best_0 : decode cX4_best 0 = .ok (.iload_n 1, 1) := by decide +kernel
theorem dX4_best_1 : decode cX4_best 1 = .ok (.iconst 0, 1) := by decide +kernel
theorem dX4_best_2 : decode cX4_best 2 = .ok (.iconst 1, 1) := by decide +kernel
theorem dX4_best_3 : decode cX4_best 3 = .ok (.invokestatic 39, 3) := by decide +kernel
theorem dX4_best_6 : decode cX4_best 6 = .ok (.ifCond .ne 6, 3) := by decide +kernel
theorem dX4_best_9 : decode cX4_best 9 = .ok (.bipush (-2), 2) := by decide +kernel
theorem dX4_best_11 : decode cX4_best 11 = .ok (.ireturn, 1) := by decide +kernel
theorem dX4_best_12 : decode cX4_best 12 = .ok (.aload_n 0, 1) := by decide +kernel
theorem dX4_best_13 : decode cX4_best 13 = .ok (.getfield 19, 3) := by decide +kernel
theorem dX4_best_16 : decode cX4_best 16 = .ok (.iload_n 1, 1) := by decide +kernel
theorem dX4_best_17 : decode cX4_best 17 = .ok (.ifCond .ne 7, 3) := by decide +kernel
theorem dX4_best_20 : decode cX4_best 20 = .ok (.iconst 1, 1) := by decide +kernel
theorem dX4_best_21 : decode cX4_best 21 = .ok (.goto 4, 3) := by decide +kernel
theorem dX4_best_24 : decode cX4_best 24 = .ok (.iconst 0, 1) := by decide +kernel
theorem dX4_best_25 : decode cX4_best 25 = .ok (.invokevirtual 130, 3) := by decide +kernel
theorem dX4_best_28 : decode cX4_best 28 = .ok (.ireturn, 1) := by decide +kernel
set_option maxRecDepth 20000 in
theorem ggX4_kind_X4_within : GoodIn wsX4_kind wsX4_within := goodIn_r _ [5] (by decide +kernel) (by decide +kernel)
set_option maxRecDepth 20000 in
theorem gX4_kind_X4_within : GoodIn wsX4_kind (va_wsS RX4 39 yX4_within wsX4_within) := goodIn_app (goodIn_of _ (by decide +kernel)) ggX4_kind_X4_within
set_option maxRecDepth 20000 in
theorem ggX4_kind_X3_count : GoodIn wsX4_kind wsX3_count := goodIn_r _ [10, 11, 23, 24, 25, 26, 27, 28, 29] (by decide +kernel) (by decide +kernel)
set_option maxRecDepth 20000 in
theorem gX4_kind_X3_count : GoodIn wsX4_kind (wsV RX4 133 RX3 yX3_count wsX3_count) := goodIn_app (goodIn_of _ (by decide +kernel)) ggX4_kind_X3_count
set_option maxRecDepth 20000 in
theorem ggX4_kind_X3_add : GoodIn wsX4_kind wsX3_add := goodIn_r _ [15, 16, 11, 17, 18, 23, 24, 25, 26, 27, 28, 29] (by decide +kernel) (by decide +kernel)
set_option maxRecDepth 20000 in
theorem gX4_kind_X3_add : GoodIn wsX4_kind (wsV RX4 134 RX3 yX3_add wsX3_add) := goodIn_app (goodIn_of _ (by decide +kernel)) ggX4_kind_X3_add
theorem dX4_kind_0 : decode cX4_kind 0 = .ok (.iload_n 1, 1) := by decide +kernel
theorem dX4_kind_1 : decode cX4_kind 1 = .ok (.iconst 1, 1) := by decide +kernel
theorem dX4_kind_2 : decode cX4_kind 2 = .ok (.bipush 24, 2) := by decide +kernel
theorem dX4_kind_4 : decode cX4_kind 4 = .ok (.invokestatic 39, 3) := by decide +kernel
theorem dX4_kind_7 : decode cX4_kind 7 = .ok (.ifCond .eq 25, 3) := by decide +kernel
theorem dX4_kind_10 : decode cX4_kind 10 = .ok (.iload_n 2, 1) := by decide +kernel
theorem dX4_kind_11 : decode cX4_kind 11 = .ok (.iconst 1, 1) := by decide +kernel
theorem dX4_kind_12 : decode cX4_kind 12 = .ok (.sipush 1000, 3) := by decide +kernel
theorem dX4_kind_15 : decode cX4_kind 15 = .ok (.invokestatic 39, 3) := by decide +kernel
theorem dX4_kind_18 : decode cX4_kind 18 = .ok (.ifCond .eq 14, 3) := by decide +kernel
theorem dX4_kind_21 : decode cX4_kind 21 = .ok (.iload_n 3, 1) := by decide +kernel
theorem dX4_kind_22 : decode cX4_kind 22 = .ok (.iconst 0, 1) := by decide +kernel
theorem dX4_kind_23 : decode cX4_kind 23 = .ok (.sipush 2000, 3) := by decide +kernel
theorem dX4_kind_26 : decode cX4_kind 26 = .ok (.invokestatic 39, 3) := by decide +kernel
theorem dX4_kind_29 : decode cX4_kind 29 = .ok (.ifCond .ne 6, 3) := by decide +kernel
theorem dX4_kind_32 : decode cX4_kind 32 = .ok (.bipush (-2), 2) := by decide +kernel
theorem dX4_kind_34 : decode cX4_kind 34 = .ok (.ireturn, 1) := by decide +kernel
theorem dX4_kind_35 : decode cX4_kind 35 = .ok (.aload_n 0, 1) := by decide +kernel
theorem dX4_kind_36 : decode cX4_kind 36 = .ok (.getfield 28, 3) := by decide +kernel
theorem dX4_kind_39 : decode cX4_kind 39 = .ok (.invokevirtual 133, 3) := by decide +kernel
theorem dX4_kind_42 : decode cX4_kind 42 = .ok (.iconst 4, 1) := by decide +kernel
theorem dX4_kind_43 : decode cX4_kind 43 = .ok (.if_icmp .lt 6, 3) := by decide +kernel
theorem dX4_kind_46 : decode cX4_kind 46 = .ok (.bipush (-4), 2) := by decide +kernel
theorem dX4_kind_48 : decode cX4_kind 48 = .ok (.ireturn, 1) := by decide +kernel
theorem dX4_kind_49 : decode cX4_kind 49 = .ok (.aload_n 0, 1) := by decide +kernel
theorem dX4_kind_50 : decode cX4_kind 50 = .ok (.getfield 28, 3) := by decide +kernel
theorem dX4_kind_53 : decode cX4_kind 53 = .ok (.iload_n 1, 1) := by decide +kernel
theorem dX4_kind_54 : decode cX4_kind 54 = .ok (.iload_n 2, 1) := by decide +kernel
theorem dX4_kind_55 : decode cX4_kind 55 = .ok (.iload_n 3, 1) := by decide +kernel
theorem dX4_kind_56 : decode cX4_kind 56 = .ok (.invokevirtual 134, 3) := by decide +kernel
theorem dX4_kind_59 : decode cX4_kind 59 = .ok (.ireturn, 1) := by decide +kernel
set_option maxRecDepth 20000 in
theorem ggX4_canLie_X3_count : GoodIn wsX4_canLie wsX3_count := goodIn_r _ [6, 7, 51, 52, 53, 54, 55, 56, 57] (by decide +kernel) (by decide +kernel)
set_option maxRecDepth 20000 in
theorem gX4_canLie_X3_count : GoodIn wsX4_canLie (wsV RX4 133 RX3 yX3_count wsX3_count) := goodIn_app (goodIn_of _ (by decide +kernel)) ggX4_canLie_X3_count
set_option maxRecDepth 20000 in
theorem ggX4_canLie_X4_within : GoodIn wsX4_canLie wsX4_within := goodIn_r _ [11] (by decide +kernel) (by decide +kernel)
set_option maxRecDepth 20000 in
theorem gX4_canLie_X4_within : GoodIn wsX4_canLie (va_wsS RX4 39 yX4_within wsX4_within) := goodIn_app (goodIn_of _ (by decide +kernel)) ggX4_canLie_X4_within
set_option maxRecDepth 20000 in
theorem ggX4_canLie_X4_isPlace : GoodIn wsX4_canLie wsX4_isPlace := goodIn_r _ [15, 16, 17, 18, 19, 20, 21, 22, 8, 9, 10, 11, 47, 48, 49, 50, 58, 59, 60, 61, 62, 63, 64, 65] (by decide +kernel) (by decide +kernel)
set_option maxRecDepth 20000 in
theorem gX4_canLie_X4_isPlace : GoodIn wsX4_canLie (wsV RX4 55 RX4 yX4_isPlace wsX4_isPlace) := goodIn_app (goodIn_of _ (by decide +kernel)) ggX4_canLie_X4_isPlace
set_option maxRecDepth 20000 in
theorem ggX4_canLie_X3_lies : GoodIn wsX4_canLie wsX3_lies := goodIn_r _ [26, 27, 28, 29, 30, 18, 19, 20, 21, 22, 31, 32, 33, 34, 35, 36, 37, 38, 39, 40, 41, 42, 43, 44, 45, 46, 51, 52, 53, 54, 55, 56, 57, 58, 59, 60, 61, 62, 63, 64, 65] (by decide +kernel) (by decide +kernel)
set_option maxRecDepth 20000 in
theorem gX4_canLie_X3_lies : GoodIn wsX4_canLie (wsV RX4 137 RX3 yX3_lies wsX3_lies) := goodIn_app (goodIn_of _ (by decide +kernel)) ggX4_canLie_X3_lies
theorem dX4_canLie_0 : decode cX4_canLie 0 = .ok (.iload_n 1, 1) := by decide +kernel
theorem dX4_canLie_1 : decode cX4_canLie 1 = .ok (.iconst 0, 1) := by decide +kernel
theorem dX4_canLie_2 : decode cX4_canLie 2 = .ok (.aload_n 0, 1) := by decide +kernel
theorem dX4_canLie_3 : decode cX4_canLie 3 = .ok (.getfield 28, 3) := by decide +kernel
theorem dX4_canLie_6 : decode cX4_canLie 6 = .ok (.invokevirtual 133, 3) := by decide +kernel
theorem dX4_canLie_9 : decode cX4_canLie 9 = .ok (.iconst 1, 1) := by decide +kernel
theorem dX4_canLie_10 : decode cX4_canLie 10 = .ok (.isub, 1) := by decide +kernel
theorem dX4_canLie_11 : decode cX4_canLie 11 = .ok (.invokestatic 39, 3) := by decide +kernel
theorem dX4_canLie_14 : decode cX4_canLie 14 = .ok (.ifCond .eq 11, 3) := by decide +kernel
theorem dX4_canLie_17 : decode cX4_canLie 17 = .ok (.aload_n 0, 1) := by decide +kernel
theorem dX4_canLie_18 : decode cX4_canLie 18 = .ok (.iload_n 2, 1) := by decide +kernel
theorem dX4_canLie_19 : decode cX4_canLie 19 = .ok (.invokevirtual 55, 3) := by decide +kernel
theorem dX4_canLie_22 : decode cX4_canLie 22 = .ok (.ifCond .ne 5, 3) := by decide +kernel
theorem dX4_canLie_25 : decode cX4_canLie 25 = .ok (.iconst (-1), 1) := by decide +kernel
theorem dX4_canLie_26 : decode cX4_canLie 26 = .ok (.ireturn, 1) := by decide +kernel
theorem dX4_canLie_27 : decode cX4_canLie 27 = .ok (.aload_n 0, 1) := by decide +kernel
theorem dX4_canLie_28 : decode cX4_canLie 28 = .ok (.getfield 28, 3) := by decide +kernel
theorem dX4_canLie_31 : decode cX4_canLie 31 = .ok (.iload_n 1, 1) := by decide +kernel
theorem dX4_canLie_32 : decode cX4_canLie 32 = .ok (.iload_n 2, 1) := by decide +kernel
theorem dX4_canLie_33 : decode cX4_canLie 33 = .ok (.invokevirtual 137, 3) := by decide +kernel
theorem dX4_canLie_36 : decode cX4_canLie 36 = .ok (.ifCond .eq 7, 3) := by decide +kernel
theorem dX4_canLie_39 : decode cX4_canLie 39 = .ok (.iconst 1, 1) := by decide +kernel
theorem dX4_canLie_40 : decode cX4_canLie 40 = .ok (.goto 4, 3) := by decide +kernel
theorem dX4_canLie_43 : decode cX4_canLie 43 = .ok (.iconst 0, 1) := by decide +kernel
theorem dX4_canLie_44 : decode cX4_canLie 44 = .ok (.ireturn, 1) := by decide +kernel
set_option maxRecDepth 20000 in
theorem ggX4_cut_X3_plan : GoodIn wsX4_cut wsX3_plan := goodIn_r _ [6, 7, 8, 9, 10, 11, 12, 13, 14, 15, 16, 17, 5, 18, 19, 20, 21, 22, 23, 24, 25, 26, 27, 28, 29, 30, 31, 32, 33, 34, 35, 36, 37, 38, 39, 40, 41, 42, 43, 44, 45, 46, 47, 52, 53, 54, 55, 56, 57, 58, 59, 60, 61, 62, 63, 64, 65, 66] (by decide +kernel) (by decide +kernel)
set_option maxRecDepth 20000 in
theorem gX4_cut_X3_plan : GoodIn wsX4_cut (wsV RX4 140 RX3 yX3_plan wsX3_plan) := goodIn_app (goodIn_of _ (by decide +kernel)) ggX4_cut_X3_plan
theorem dX4_cut_0 : decode cX4_cut 0 = .ok (.aload_n 0, 1) := by decide +kernel
theorem dX4_cut_1 : decode cX4_cut 1 = .ok (.getfield 28, 3) := by decide +kernel
theorem dX4_cut_4 : decode cX4_cut 4 = .ok (.invokevirtual 140, 3) := by decide +kernel
theorem dX4_cut_7 : decode cX4_cut 7 = .ok (.ireturn, 1) := by decide +kernel
set_option maxRecDepth 20000 in
theorem ggX4_cutAt_X4_isPlace : GoodIn wsX4_cutAt wsX4_isPlace := goodIn_r _ [6, 7, 8, 9, 10, 11, 12, 13, 14, 15, 5, 16, 62, 63, 64, 65, 66, 67, 68, 69, 70, 71, 72, 73] (by decide +kernel) (by decide +kernel)
set_option maxRecDepth 20000 in
theorem gX4_cutAt_X4_isPlace : GoodIn wsX4_cutAt (wsV RX4 55 RX4 yX4_isPlace wsX4_isPlace) := goodIn_app (goodIn_of _ (by decide +kernel)) ggX4_cutAt_X4_isPlace
set_option maxRecDepth 20000 in
theorem ggX4_cutAt_X3_plan : GoodIn wsX4_cutAt wsX3_plan := goodIn_r _ [21, 22, 23, 24, 9, 10, 11, 12, 13, 25, 26, 27, 20, 28, 29, 30, 31, 32, 33, 34, 35, 36, 37, 38, 39, 40, 41, 42, 43, 44, 45, 46, 47, 48, 49, 50, 51, 52, 53, 54, 55, 56, 57, 74, 75, 76, 77, 78, 79, 80, 66, 67, 68, 69, 70, 71, 72, 73] (by decide +kernel) (by decide +kernel)
set_option maxRecDepth 20000 in
theorem gX4_cutAt_X3_plan : GoodIn wsX4_cutAt (wsV RX4 140 RX3 yX3_plan wsX3_plan) := goodIn_app (goodIn_of _ (by decide +kernel)) ggX4_cutAt_X3_plan
set_option maxRecDepth 20000 in
theorem ggX4_cutAt_X3_plannedAt : GoodIn wsX4_cutAt wsX3_plannedAt := goodIn_r _ [61, 32, 74, 75, 76, 77, 78, 79, 80] (by decide +kernel) (by decide +kernel)
set_option maxRecDepth 20000 in
theorem gX4_cutAt_X3_plannedAt : GoodIn wsX4_cutAt (wsV RX4 143 RX3 yX3_plannedAt wsX3_plannedAt) := goodIn_app (goodIn_of _ (by decide +kernel)) ggX4_cutAt_X3_plannedAt
theorem dX4_cutAt_0 : decode cX4_cutAt 0 = .ok (.aload_n 0, 1) := by decide +kernel
theorem dX4_cutAt_1 : decode cX4_cutAt 1 = .ok (.iload_n 1, 1) := by decide +kernel
theorem dX4_cutAt_2 : decode cX4_cutAt 2 = .ok (.invokevirtual 55, 3) := by decide +kernel
theorem dX4_cutAt_5 : decode cX4_cutAt 5 = .ok (.ifCond .ne 5, 3) := by decide +kernel
theorem dX4_cutAt_8 : decode cX4_cutAt 8 = .ok (.iconst (-1), 1) := by decide +kernel
theorem dX4_cutAt_9 : decode cX4_cutAt 9 = .ok (.ireturn, 1) := by decide +kernel
theorem dX4_cutAt_10 : decode cX4_cutAt 10 = .ok (.aload_n 0, 1) := by decide +kernel
theorem dX4_cutAt_11 : decode cX4_cutAt 11 = .ok (.getfield 28, 3) := by decide +kernel
theorem dX4_cutAt_14 : decode cX4_cutAt 14 = .ok (.invokevirtual 140, 3) := by decide +kernel
theorem dX4_cutAt_17 : decode cX4_cutAt 17 = .ok (.pop, 1) := by decide +kernel
theorem dX4_cutAt_18 : decode cX4_cutAt 18 = .ok (.aload_n 0, 1) := by decide +kernel
theorem dX4_cutAt_19 : decode cX4_cutAt 19 = .ok (.getfield 28, 3) := by decide +kernel
theorem dX4_cutAt_22 : decode cX4_cutAt 22 = .ok (.iload_n 1, 1) := by decide +kernel
theorem dX4_cutAt_23 : decode cX4_cutAt 23 = .ok (.invokevirtual 143, 3) := by decide +kernel
end
section
theorem dX4_cutAt_26 : decode cX4_cutAt 26 = .ok (.ireturn, 1) := by decide +kernel
set_option maxRecDepth 20000 in
theorem ggX4_grade_X1_count : GoodIn wsX4_grade wsX1_count := goodIn_r _ [6, 7, 17, 18, 19, 20] (by decide +kernel) (by decide +kernel)
set_option maxRecDepth 20000 in
theorem gX4_grade_X1_count : GoodIn wsX4_grade (wsV RX4 146 RX1 yX1_count wsX1_count) := goodIn_app (goodIn_of _ (by decide +kernel)) ggX4_grade_X1_count
set_option maxRecDepth 20000 in
theorem ggX4_grade_X1_add : GoodIn wsX4_grade wsX1_add := goodIn_r _ [11, 12, 7, 17, 18, 19, 20] (by decide +kernel) (by decide +kernel)
set_option maxRecDepth 20000 in
theorem gX4_grade_X1_add : GoodIn wsX4_grade (wsV RX4 147 RX1 yX1_add wsX1_add) := goodIn_app (goodIn_of _ (by decide +kernel)) ggX4_grade_X1_add
theorem dX4_grade_0 : decode cX4_grade 0 = .ok (.aload_n 0, 1) := by decide +kernel
theorem dX4_grade_1 : decode cX4_grade 1 = .ok (.getfield 35, 3) := by decide +kernel
theorem dX4_grade_4 : decode cX4_grade 4 = .ok (.invokevirtual 146, 3) := by decide +kernel
theorem dX4_grade_7 : decode cX4_grade 7 = .ok (.bipush 9, 2) := by decide +kernel
theorem dX4_grade_9 : decode cX4_grade 9 = .ok (.if_icmp .lt 6, 3) := by decide +kernel
theorem dX4_grade_12 : decode cX4_grade 12 = .ok (.bipush (-4), 2) := by decide +kernel
theorem dX4_grade_14 : decode cX4_grade 14 = .ok (.ireturn, 1) := by decide +kernel
theorem dX4_grade_15 : decode cX4_grade 15 = .ok (.aload_n 0, 1) := by decide +kernel
theorem dX4_grade_16 : decode cX4_grade 16 = .ok (.getfield 35, 3) := by decide +kernel
theorem dX4_grade_19 : decode cX4_grade 19 = .ok (.invokevirtual 147, 3) := by decide +kernel
theorem dX4_grade_22 : decode cX4_grade 22 = .ok (.ireturn, 1) := by decide +kernel
set_option maxRecDepth 20000 in
theorem ggX4_cost_X4_isGrade : GoodIn wsX4_cost wsX4_isGrade := goodIn_r _ [6, 1, 7, 8, 9, 10, 11, 12, 13, 14, 5, 15, 26, 27, 28, 29, 30, 31, 32, 33] (by decide +kernel) (by decide +kernel)
set_option maxRecDepth 20000 in
theorem gX4_cost_X4_isGrade : GoodIn wsX4_cost (wsV RX4 149 RX4 yX4_isGrade wsX4_isGrade) := goodIn_app (goodIn_of _ (by decide +kernel)) ggX4_cost_X4_isGrade
set_option maxRecDepth 20000 in
theorem ggX4_cost_X4_within : GoodIn wsX4_cost wsX4_within := goodIn_r _ [15] (by decide +kernel) (by decide +kernel)
set_option maxRecDepth 20000 in
theorem gX4_cost_X4_within : GoodIn wsX4_cost (va_wsS RX4 39 yX4_within wsX4_within) := goodIn_app (goodIn_of _ (by decide +kernel)) ggX4_cost_X4_within
set_option maxRecDepth 20000 in
theorem ggX4_cost_X1_putCost : GoodIn wsX4_cost wsX1_putCost := goodIn_r _ [19, 20, 21, 22, 23, 24, 10, 25, 30, 31, 32, 33] (by decide +kernel) (by decide +kernel)
set_option maxRecDepth 20000 in
theorem gX4_cost_X1_putCost : GoodIn wsX4_cost (wsV RX4 152 RX1 yX1_putCost wsX1_putCost) := goodIn_app (goodIn_of _ (by decide +kernel)) ggX4_cost_X1_putCost
theorem dX4_cost_0 : decode cX4_cost 0 = .ok (.aload_n 0, 1) := by decide +kernel
theorem dX4_cost_1 : decode cX4_cost 1 = .ok (.iload_n 1, 1) := by decide +kernel
theorem dX4_cost_2 : decode cX4_cost 2 = .ok (.invokevirtual 149, 3) := by decide +kernel
theorem dX4_cost_5 : decode cX4_cost 5 = .ok (.ifCond .eq 11, 3) := by decide +kernel
theorem dX4_cost_8 : decode cX4_cost 8 = .ok (.aload_n 0, 1) := by decide +kernel
theorem dX4_cost_9 : decode cX4_cost 9 = .ok (.iload_n 2, 1) := by decide +kernel
theorem dX4_cost_10 : decode cX4_cost 10 = .ok (.invokevirtual 149, 3) := by decide +kernel
theorem dX4_cost_13 : decode cX4_cost 13 = .ok (.ifCond .ne 5, 3) := by decide +kernel
theorem dX4_cost_16 : decode cX4_cost 16 = .ok (.iconst (-1), 1) := by decide +kernel
theorem dX4_cost_17 : decode cX4_cost 17 = .ok (.ireturn, 1) := by decide +kernel
theorem dX4_cost_18 : decode cX4_cost 18 = .ok (.iload_n 3, 1) := by decide +kernel
theorem dX4_cost_19 : decode cX4_cost 19 = .ok (.iconst 0, 1) := by decide +kernel
theorem dX4_cost_20 : decode cX4_cost 20 = .ok (.sipush 1000, 3) := by decide +kernel
theorem dX4_cost_23 : decode cX4_cost 23 = .ok (.invokestatic 39, 3) := by decide +kernel
theorem dX4_cost_26 : decode cX4_cost 26 = .ok (.ifCond .ne 6, 3) := by decide +kernel
theorem dX4_cost_29 : decode cX4_cost 29 = .ok (.bipush (-2), 2) := by decide +kernel
theorem dX4_cost_31 : decode cX4_cost 31 = .ok (.ireturn, 1) := by decide +kernel
theorem dX4_cost_32 : decode cX4_cost 32 = .ok (.iload_n 1, 1) := by decide +kernel
theorem dX4_cost_33 : decode cX4_cost 33 = .ok (.iload_n 2, 1) := by decide +kernel
theorem dX4_cost_34 : decode cX4_cost 34 = .ok (.if_icmp .ne 6, 3) := by decide +kernel
theorem dX4_cost_37 : decode cX4_cost 37 = .ok (.bipush (-5), 2) := by decide +kernel
theorem dX4_cost_39 : decode cX4_cost 39 = .ok (.ireturn, 1) := by decide +kernel
theorem dX4_cost_40 : decode cX4_cost 40 = .ok (.aload_n 0, 1) := by decide +kernel
theorem dX4_cost_41 : decode cX4_cost 41 = .ok (.getfield 35, 3) := by decide +kernel
theorem dX4_cost_44 : decode cX4_cost 44 = .ok (.iload_n 1, 1) := by decide +kernel
theorem dX4_cost_45 : decode cX4_cost 45 = .ok (.iload_n 2, 1) := by decide +kernel
theorem dX4_cost_46 : decode cX4_cost 46 = .ok (.iload_n 3, 1) := by decide +kernel
theorem dX4_cost_47 : decode cX4_cost 47 = .ok (.invokevirtual 152, 3) := by decide +kernel
theorem dX4_cost_50 : decode cX4_cost 50 = .ok (.ireturn, 1) := by decide +kernel
set_option maxRecDepth 20000 in
theorem ggX4_tour_X4_isGrade : GoodIn wsX4_tour wsX4_isGrade := goodIn_r _ [6, 1, 7, 8, 9, 10, 11, 12, 13, 14, 5, 15, 54, 55, 56, 57, 58, 59, 60, 61] (by decide +kernel) (by decide +kernel)
set_option maxRecDepth 20000 in
theorem gX4_tour_X4_isGrade : GoodIn wsX4_tour (wsV RX4 149 RX4 yX4_isGrade wsX4_isGrade) := goodIn_app (goodIn_of _ (by decide +kernel)) ggX4_tour_X4_isGrade
set_option maxRecDepth 20000 in
theorem ggX4_tour_X1_leastCosts : GoodIn wsX4_tour wsX1_leastCosts := goodIn_r _ [19, 20, 21, 22, 10, 23, 24, 12, 25, 26, 27, 28, 29, 30, 31, 32, 33, 34, 35, 36, 37, 38, 39, 40, 41, 42, 43, 44, 45, 46, 47, 48, 49, 50, 51, 52, 53, 58, 59, 60, 61] (by decide +kernel) (by decide +kernel)
set_option maxRecDepth 20000 in
theorem gX4_tour_X1_leastCosts : GoodIn wsX4_tour (wsV RX4 155 RX1 yX1_leastCosts wsX1_leastCosts) := goodIn_app (goodIn_of _ (by decide +kernel)) ggX4_tour_X1_leastCosts
theorem dX4_tour_0 : decode cX4_tour 0 = .ok (.aload_n 0, 1) := by decide +kernel
theorem dX4_tour_1 : decode cX4_tour 1 = .ok (.iload_n 1, 1) := by decide +kernel
theorem dX4_tour_2 : decode cX4_tour 2 = .ok (.invokevirtual 149, 3) := by decide +kernel
theorem dX4_tour_5 : decode cX4_tour 5 = .ok (.ifCond .ne 5, 3) := by decide +kernel
theorem dX4_tour_8 : decode cX4_tour 8 = .ok (.iconst (-1), 1) := by decide +kernel
theorem dX4_tour_9 : decode cX4_tour 9 = .ok (.ireturn, 1) := by decide +kernel
theorem dX4_tour_10 : decode cX4_tour 10 = .ok (.aload_n 0, 1) := by decide +kernel
theorem dX4_tour_11 : decode cX4_tour 11 = .ok (.getfield 35, 3) := by decide +kernel
theorem dX4_tour_14 : decode cX4_tour 14 = .ok (.iload_n 1, 1) := by decide +kernel
theorem dX4_tour_15 : decode cX4_tour 15 = .ok (.invokevirtual 155, 3) := by decide +kernel
theorem dX4_tour_18 : decode cX4_tour 18 = .ok (.ireturn, 1) := by decide +kernel
set_option maxRecDepth 20000 in
theorem ggX4_tourAt_X4_isGrade : GoodIn wsX4_tourAt wsX4_isGrade := goodIn_r _ [6, 1, 7, 8, 9, 10, 11, 12, 13, 14, 5, 15, 54, 55, 56, 57, 58, 59, 60, 61] (by decide +kernel) (by decide +kernel)
set_option maxRecDepth 20000 in
theorem gX4_tourAt_X4_isGrade : GoodIn wsX4_tourAt (wsV RX4 149 RX4 yX4_isGrade wsX4_isGrade) := goodIn_app (goodIn_of _ (by decide +kernel)) ggX4_tourAt_X4_isGrade
set_option maxRecDepth 20000 in
theorem ggX4_tourAt_X1_stepOf : GoodIn wsX4_tourAt wsX1_stepOf := goodIn_r _ [19, 20, 21, 22, 10, 23, 24, 12, 25, 26, 27, 28, 29, 30, 31, 32, 33, 34, 35, 36, 37, 38, 39, 40, 41, 42, 43, 44, 45, 46, 47, 48, 49, 50, 51, 52, 53, 58, 59, 60, 61] (by decide +kernel) (by decide +kernel)
set_option maxRecDepth 20000 in
theorem gX4_tourAt_X1_stepOf : GoodIn wsX4_tourAt (wsV RX4 158 RX1 yX1_stepOf wsX1_stepOf) := goodIn_app (goodIn_of _ (by decide +kernel)) ggX4_tourAt_X1_stepOf
theorem dX4_tourAt_0 : decode cX4_tourAt 0 = .ok (.aload_n 0, 1) := by decide +kernel
theorem dX4_tourAt_1 : decode cX4_tourAt 1 = .ok (.iload_n 1, 1) := by decide +kernel
theorem dX4_tourAt_2 : decode cX4_tourAt 2 = .ok (.invokevirtual 149, 3) := by decide +kernel
theorem dX4_tourAt_5 : decode cX4_tourAt 5 = .ok (.ifCond .ne 5, 3) := by decide +kernel
theorem dX4_tourAt_8 : decode cX4_tourAt 8 = .ok (.iconst (-1), 1) := by decide +kernel
theorem dX4_tourAt_9 : decode cX4_tourAt 9 = .ok (.ireturn, 1) := by decide +kernel
theorem dX4_tourAt_10 : decode cX4_tourAt 10 = .ok (.aload_n 0, 1) := by decide +kernel
theorem dX4_tourAt_11 : decode cX4_tourAt 11 = .ok (.iload_n 2, 1) := by decide +kernel
theorem dX4_tourAt_12 : decode cX4_tourAt 12 = .ok (.invokevirtual 149, 3) := by decide +kernel
theorem dX4_tourAt_15 : decode cX4_tourAt 15 = .ok (.ifCond .ne 6, 3) := by decide +kernel
theorem dX4_tourAt_18 : decode cX4_tourAt 18 = .ok (.bipush (-6), 2) := by decide +kernel
theorem dX4_tourAt_20 : decode cX4_tourAt 20 = .ok (.ireturn, 1) := by decide +kernel
theorem dX4_tourAt_21 : decode cX4_tourAt 21 = .ok (.aload_n 0, 1) := by decide +kernel
theorem dX4_tourAt_22 : decode cX4_tourAt 22 = .ok (.getfield 35, 3) := by decide +kernel
theorem dX4_tourAt_25 : decode cX4_tourAt 25 = .ok (.iload_n 1, 1) := by decide +kernel
theorem dX4_tourAt_26 : decode cX4_tourAt 26 = .ok (.iload_n 2, 1) := by decide +kernel
theorem dX4_tourAt_27 : decode cX4_tourAt 27 = .ok (.invokevirtual 158, 3) := by decide +kernel
theorem dX4_tourAt_30 : decode cX4_tourAt 30 = .ok (.ireturn, 1) := by decide +kernel
set_option maxRecDepth 20000 in
theorem ggX4_told_X2_places : GoodIn wsX4_told wsX2_places := goodIn_r _ [9, 10, 58, 59, 60, 61, 62, 63, 64, 65] (by decide +kernel) (by decide +kernel)
set_option maxRecDepth 20000 in
theorem gX4_told_X2_places : GoodIn wsX4_told (wsV RX4 43 RX2 yX2_places wsX2_places) := goodIn_app (goodIn_of _ (by decide +kernel)) ggX4_told_X2_places
set_option maxRecDepth 20000 in
theorem ggX4_told_X0_count : GoodIn wsX4_told wsX0_count := goodIn_r _ [15, 16, 66, 67, 68, 69, 70, 71, 72, 73] (by decide +kernel) (by decide +kernel)
set_option maxRecDepth 20000 in
theorem gX4_told_X0_count : GoodIn wsX4_told (wsV RX4 62 RX0 yX0_count wsX0_count) := goodIn_app (goodIn_of _ (by decide +kernel)) ggX4_told_X0_count
set_option maxRecDepth 20000 in
theorem ggX4_told_X0_fittingCount : GoodIn wsX4_told wsX0_fittingCount := goodIn_r _ [20, 21, 66, 67, 68, 69, 70, 71, 72, 73] (by decide +kernel) (by decide +kernel)
set_option maxRecDepth 20000 in
theorem gX4_told_X0_fittingCount : GoodIn wsX4_told (wsV RX4 161 RX0 yX0_fittingCount wsX0_fittingCount) := goodIn_app (goodIn_of _ (by decide +kernel)) ggX4_told_X0_fittingCount
set_option maxRecDepth 20000 in
theorem ggX4_told_X3_count : GoodIn wsX4_told wsX3_count := goodIn_r _ [26, 27, 74, 75, 76, 77, 78, 79, 80] (by decide +kernel) (by decide +kernel)
set_option maxRecDepth 20000 in
theorem gX4_told_X3_count : GoodIn wsX4_told (wsV RX4 133 RX3 yX3_count wsX3_count) := goodIn_app (goodIn_of _ (by decide +kernel)) ggX4_told_X3_count
set_option maxRecDepth 20000 in
theorem ggX4_told_X1_count : GoodIn wsX4_told wsX1_count := goodIn_r _ [32, 33, 81, 82, 83, 84] (by decide +kernel) (by decide +kernel)
set_option maxRecDepth 20000 in
theorem gX4_told_X1_count : GoodIn wsX4_told (wsV RX4 146 RX1 yX1_count wsX1_count) := goodIn_app (goodIn_of _ (by decide +kernel)) ggX4_told_X1_count
set_option maxRecDepth 20000 in
theorem ggX4_told_X2_nextLaw : GoodIn wsX4_told wsX2_nextLaw := goodIn_r _ [37, 38, 58, 59, 60, 61, 62, 63, 64, 65] (by decide +kernel) (by decide +kernel)
set_option maxRecDepth 20000 in
theorem gX4_told_X2_nextLaw : GoodIn wsX4_told (wsV RX4 164 RX2 yX2_nextLaw wsX2_nextLaw) := goodIn_app (goodIn_of _ (by decide +kernel)) ggX4_told_X2_nextLaw
set_option maxRecDepth 20000 in
theorem ggX4_told_X2_bendLaw : GoodIn wsX4_told wsX2_bendLaw := goodIn_r _ [42, 43, 58, 59, 60, 61, 62, 63, 64, 65] (by decide +kernel) (by decide +kernel)
set_option maxRecDepth 20000 in
theorem gX4_told_X2_bendLaw : GoodIn wsX4_told (wsV RX4 167 RX2 yX2_bendLaw wsX2_bendLaw) := goodIn_app (goodIn_of _ (by decide +kernel)) ggX4_told_X2_bendLaw
set_option maxRecDepth 20000 in
theorem ggX4_told_X2_mainSpread : GoodIn wsX4_told wsX2_mainSpread := goodIn_r _ [47, 48, 58, 59, 60, 61, 62, 63, 64, 65] (by decide +kernel) (by decide +kernel)
set_option maxRecDepth 20000 in
theorem gX4_told_X2_mainSpread : GoodIn wsX4_told (wsV RX4 170 RX2 yX2_mainSpread wsX2_mainSpread) := goodIn_app (goodIn_of _ (by decide +kernel)) ggX4_told_X2_mainSpread
set_option maxRecDepth 20000 in
theorem ggX4_told_X2_sideSpread : GoodIn wsX4_told wsX2_sideSpread := goodIn_r _ [52, 53, 58, 59, 60, 61, 62, 63, 64, 65] (by decide +kernel) (by decide +kernel)
set_option maxRecDepth 20000 in
theorem gX4_told_X2_sideSpread : GoodIn wsX4_told (wsV RX4 173 RX2 yX2_sideSpread wsX2_sideSpread) := goodIn_app (goodIn_of _ (by decide +kernel)) ggX4_told_X2_sideSpread
theorem dX4_told_0 : decode cX4_told 0 = .ok (.iload_n 1, 1) := by decide +kernel
theorem dX4_told_1 : decode cX4_told 1 = .ok (.tableswitch 123 0 8 #[51, 59, 67, 75, 83, 91, 99, 107, 115], 51) := by decide +kernel
theorem dX4_told_52 : decode cX4_told 52 = .ok (.aload_n 0, 1) := by decide +kernel
theorem dX4_told_53 : decode cX4_told 53 = .ok (.getfield 19, 3) := by decide +kernel
theorem dX4_told_56 : decode cX4_told 56 = .ok (.invokevirtual 43, 3) := by decide +kernel
theorem dX4_told_59 : decode cX4_told 59 = .ok (.ireturn, 1) := by decide +kernel
theorem dX4_told_60 : decode cX4_told 60 = .ok (.aload_n 0, 1) := by decide +kernel
theorem dX4_told_61 : decode cX4_told 61 = .ok (.getfield 10, 3) := by decide +kernel
theorem dX4_told_64 : decode cX4_told 64 = .ok (.invokevirtual 62, 3) := by decide +kernel
theorem dX4_told_67 : decode cX4_told 67 = .ok (.ireturn, 1) := by decide +kernel
theorem dX4_told_68 : decode cX4_told 68 = .ok (.aload_n 0, 1) := by decide +kernel
theorem dX4_told_69 : decode cX4_told 69 = .ok (.getfield 10, 3) := by decide +kernel
theorem dX4_told_72 : decode cX4_told 72 = .ok (.invokevirtual 161, 3) := by decide +kernel
theorem dX4_told_75 : decode cX4_told 75 = .ok (.ireturn, 1) := by decide +kernel
theorem dX4_told_76 : decode cX4_told 76 = .ok (.aload_n 0, 1) := by decide +kernel
theorem dX4_told_77 : decode cX4_told 77 = .ok (.getfield 28, 3) := by decide +kernel
theorem dX4_told_80 : decode cX4_told 80 = .ok (.invokevirtual 133, 3) := by decide +kernel
theorem dX4_told_83 : decode cX4_told 83 = .ok (.ireturn, 1) := by decide +kernel
theorem dX4_told_84 : decode cX4_told 84 = .ok (.aload_n 0, 1) := by decide +kernel
theorem dX4_told_85 : decode cX4_told 85 = .ok (.getfield 35, 3) := by decide +kernel
theorem dX4_told_88 : decode cX4_told 88 = .ok (.invokevirtual 146, 3) := by decide +kernel
theorem dX4_told_91 : decode cX4_told 91 = .ok (.ireturn, 1) := by decide +kernel
theorem dX4_told_92 : decode cX4_told 92 = .ok (.aload_n 0, 1) := by decide +kernel
theorem dX4_told_93 : decode cX4_told 93 = .ok (.getfield 19, 3) := by decide +kernel
theorem dX4_told_96 : decode cX4_told 96 = .ok (.invokevirtual 164, 3) := by decide +kernel
theorem dX4_told_99 : decode cX4_told 99 = .ok (.ireturn, 1) := by decide +kernel
theorem dX4_told_100 : decode cX4_told 100 = .ok (.aload_n 0, 1) := by decide +kernel
theorem dX4_told_101 : decode cX4_told 101 = .ok (.getfield 19, 3) := by decide +kernel
theorem dX4_told_104 : decode cX4_told 104 = .ok (.invokevirtual 167, 3) := by decide +kernel
theorem dX4_told_107 : decode cX4_told 107 = .ok (.ireturn, 1) := by decide +kernel
theorem dX4_told_108 : decode cX4_told 108 = .ok (.aload_n 0, 1) := by decide +kernel
theorem dX4_told_109 : decode cX4_told 109 = .ok (.getfield 19, 3) := by decide +kernel
theorem dX4_told_112 : decode cX4_told 112 = .ok (.invokevirtual 170, 3) := by decide +kernel
theorem dX4_told_115 : decode cX4_told 115 = .ok (.ireturn, 1) := by decide +kernel
theorem dX4_told_116 : decode cX4_told 116 = .ok (.aload_n 0, 1) := by decide +kernel
theorem dX4_told_117 : decode cX4_told 117 = .ok (.getfield 19, 3) := by decide +kernel
theorem dX4_told_120 : decode cX4_told 120 = .ok (.invokevirtual 173, 3) := by decide +kernel
theorem dX4_told_123 : decode cX4_told 123 = .ok (.ireturn, 1) := by decide +kernel
theorem dX4_told_124 : decode cX4_told 124 = .ok (.sipush (-1002), 3) := by decide +kernel
theorem dX4_told_127 : decode cX4_told 127 = .ok (.ireturn, 1) := by decide +kernel
set_option maxRecDepth 20000 in
theorem ggX4_isPlace_X2_places : GoodIn wsX4_isPlace wsX2_places := goodIn_r _ [6, 7, 16, 17, 18, 19, 20, 21, 22, 23] (by decide +kernel) (by decide +kernel)
set_option maxRecDepth 20000 in
theorem gX4_isPlace_X2_places : GoodIn wsX4_isPlace (wsV RX4 43 RX2 yX2_places wsX2_places) := goodIn_app (goodIn_of _ (by decide +kernel)) ggX4_isPlace_X2_places
set_option maxRecDepth 20000 in
theorem ggX4_isPlace_X4_within : GoodIn wsX4_isPlace wsX4_within := goodIn_r _ [11] (by decide +kernel) (by decide +kernel)
set_option maxRecDepth 20000 in
theorem gX4_isPlace_X4_within : GoodIn wsX4_isPlace (va_wsS RX4 39 yX4_within wsX4_within) := goodIn_app (goodIn_of _ (by decide +kernel)) ggX4_isPlace_X4_within
theorem dX4_isPlace_0 : decode cX4_isPlace 0 = .ok (.iload_n 1, 1) := by decide +kernel
theorem dX4_isPlace_1 : decode cX4_isPlace 1 = .ok (.iconst 0, 1) := by decide +kernel
theorem dX4_isPlace_2 : decode cX4_isPlace 2 = .ok (.aload_n 0, 1) := by decide +kernel
theorem dX4_isPlace_3 : decode cX4_isPlace 3 = .ok (.getfield 19, 3) := by decide +kernel
theorem dX4_isPlace_6 : decode cX4_isPlace 6 = .ok (.invokevirtual 43, 3) := by decide +kernel
theorem dX4_isPlace_9 : decode cX4_isPlace 9 = .ok (.iconst 1, 1) := by decide +kernel
theorem dX4_isPlace_10 : decode cX4_isPlace 10 = .ok (.isub, 1) := by decide +kernel
theorem dX4_isPlace_11 : decode cX4_isPlace 11 = .ok (.invokestatic 39, 3) := by decide +kernel
theorem dX4_isPlace_14 : decode cX4_isPlace 14 = .ok (.ireturn, 1) := by decide +kernel
set_option maxRecDepth 20000 in
theorem ggX4_isGrade_X1_count : GoodIn wsX4_isGrade wsX1_count := goodIn_r _ [6, 7, 16, 17, 18, 19] (by decide +kernel) (by decide +kernel)
set_option maxRecDepth 20000 in
theorem gX4_isGrade_X1_count : GoodIn wsX4_isGrade (wsV RX4 146 RX1 yX1_count wsX1_count) := goodIn_app (goodIn_of _ (by decide +kernel)) ggX4_isGrade_X1_count
set_option maxRecDepth 20000 in
theorem ggX4_isGrade_X4_within : GoodIn wsX4_isGrade wsX4_within := goodIn_r _ [11] (by decide +kernel) (by decide +kernel)
set_option maxRecDepth 20000 in
theorem gX4_isGrade_X4_within : GoodIn wsX4_isGrade (va_wsS RX4 39 yX4_within wsX4_within) := goodIn_app (goodIn_of _ (by decide +kernel)) ggX4_isGrade_X4_within
theorem dX4_isGrade_0 : decode cX4_isGrade 0 = .ok (.iload_n 1, 1) := by decide +kernel
theorem dX4_isGrade_1 : decode cX4_isGrade 1 = .ok (.iconst 0, 1) := by decide +kernel
theorem dX4_isGrade_2 : decode cX4_isGrade 2 = .ok (.aload_n 0, 1) := by decide +kernel
theorem dX4_isGrade_3 : decode cX4_isGrade 3 = .ok (.getfield 35, 3) := by decide +kernel
theorem dX4_isGrade_6 : decode cX4_isGrade 6 = .ok (.invokevirtual 146, 3) := by decide +kernel
theorem dX4_isGrade_9 : decode cX4_isGrade 9 = .ok (.iconst 1, 1) := by decide +kernel
theorem dX4_isGrade_10 : decode cX4_isGrade 10 = .ok (.isub, 1) := by decide +kernel
theorem dX4_isGrade_11 : decode cX4_isGrade 11 = .ok (.invokestatic 39, 3) := by decide +kernel
theorem dX4_isGrade_14 : decode cX4_isGrade 14 = .ok (.ireturn, 1) := by decide +kernel
set_option maxRecDepth 20000 in
theorem ggX4_isTime_X4_within : GoodIn wsX4_isTime wsX4_within := goodIn_r _ [4] (by decide +kernel) (by decide +kernel)
set_option maxRecDepth 20000 in
theorem gX4_isTime_X4_within : GoodIn wsX4_isTime (va_wsS RX4 39 yX4_within wsX4_within) := goodIn_app (goodIn_of _ (by decide +kernel)) ggX4_isTime_X4_within
theorem dX4_isTime_0 : decode cX4_isTime 0 = .ok (.iload_n 0, 1) := by decide +kernel
theorem dX4_isTime_1 : decode cX4_isTime 1 = .ok (.iconst 0, 1) := by decide +kernel
theorem dX4_isTime_2 : decode cX4_isTime 2 = .ok (.bipush 39, 2) := by decide +kernel
theorem dX4_isTime_4 : decode cX4_isTime 4 = .ok (.invokestatic 39, 3) := by decide +kernel
theorem dX4_isTime_7 : decode cX4_isTime 7 = .ok (.ireturn, 1) := by decide +kernel
theorem dX4_within_0 : decode cX4_within 0 = .ok (.iload_n 0, 1) := by decide +kernel
theorem dX4_within_1 : decode cX4_within 1 = .ok (.iload_n 1, 1) := by decide +kernel
theorem dX4_within_2 : decode cX4_within 2 = .ok (.if_icmp .lt 12, 3) := by decide +kernel
theorem dX4_within_5 : decode cX4_within 5 = .ok (.iload_n 0, 1) := by decide +kernel
theorem dX4_within_6 : decode cX4_within 6 = .ok (.iload_n 2, 1) := by decide +kernel
theorem dX4_within_7 : decode cX4_within 7 = .ok (.if_icmp .gt 7, 3) := by decide +kernel
theorem dX4_within_10 : decode cX4_within 10 = .ok (.iconst 1, 1) := by decide +kernel
theorem dX4_within_11 : decode cX4_within 11 = .ok (.goto 4, 3) := by decide +kernel
theorem dX4_within_14 : decode cX4_within 14 = .ok (.iconst 0, 1) := by decide +kernel
theorem dX4_within_15 : decode cX4_within 15 = .ok (.ireturn, 1) := by decide +kernel
end
section
set_option maxRecDepth 20000 in
theorem ggX5_init_X5_begin : GoodIn wsX5_init wsX5_begin := goodIn_r _ [30, 31, 11, 12, 32, 33, 34, 35, 36, 37, 38, 39, 40, 41, 42, 43, 44, 45, 46, 47, 48, 49, 50, 51, 52, 53, 54, 55] (by decide +kernel) (by decide +kernel)
set_option maxRecDepth 20000 in
theorem gX5_init_X5_begin : GoodIn wsX5_init (wsV RX5 72 RX5 yX5_begin wsX5_begin) := goodIn_app (goodIn_of _ (by decide +kernel)) ggX5_init_X5_begin
theorem dX5_init_0 : decode cX5_init 0 = .ok (.aload_n 0, 1) := by decide +kernel
theorem dX5_init_1 : decode cX5_init 1 = .ok (.invokespecial 1, 3) := by decide +kernel
theorem dX5_init_4 : decode cX5_init 4 = .ok (.aload_n 0, 1) := by decide +kernel
theorem dX5_init_5 : decode cX5_init 5 = .ok (.bipush 8, 2) := by decide +kernel
theorem dX5_init_7 : decode cX5_init 7 = .ok (.putfield 7, 3) := by decide +kernel
theorem dX5_init_10 : decode cX5_init 10 = .ok (.aload_n 0, 1) := by decide +kernel
theorem dX5_init_11 : decode cX5_init 11 = .ok (.bipush 100, 2) := by decide +kernel
theorem dX5_init_13 : decode cX5_init 13 = .ok (.newarray .int, 2) := by decide +kernel
theorem dX5_init_15 : decode cX5_init 15 = .ok (.putfield 13, 3) := by decide +kernel
theorem dX5_init_18 : decode cX5_init 18 = .ok (.aload_n 0, 1) := by decide +kernel
theorem dX5_init_19 : decode cX5_init 19 = .ok (.bipush 100, 2) := by decide +kernel
theorem dX5_init_21 : decode cX5_init 21 = .ok (.newarray .int, 2) := by decide +kernel
theorem dX5_init_23 : decode cX5_init 23 = .ok (.putfield 17, 3) := by decide +kernel
theorem dX5_init_26 : decode cX5_init 26 = .ok (.aload_n 0, 1) := by decide +kernel
theorem dX5_init_27 : decode cX5_init 27 = .ok (.bipush 100, 2) := by decide +kernel
theorem dX5_init_29 : decode cX5_init 29 = .ok (.newarray .int, 2) := by decide +kernel
theorem dX5_init_31 : decode cX5_init 31 = .ok (.putfield 20, 3) := by decide +kernel
theorem dX5_init_34 : decode cX5_init 34 = .ok (.aload_n 0, 1) := by decide +kernel
theorem dX5_init_35 : decode cX5_init 35 = .ok (.bipush 100, 2) := by decide +kernel
theorem dX5_init_37 : decode cX5_init 37 = .ok (.newarray .boolean, 2) := by decide +kernel
theorem dX5_init_39 : decode cX5_init 39 = .ok (.putfield 23, 3) := by decide +kernel
theorem dX5_init_42 : decode cX5_init 42 = .ok (.aload_n 0, 1) := by decide +kernel
theorem dX5_init_43 : decode cX5_init 43 = .ok (.bipush 64, 2) := by decide +kernel
theorem dX5_init_45 : decode cX5_init 45 = .ok (.newarray .int, 2) := by decide +kernel
theorem dX5_init_47 : decode cX5_init 47 = .ok (.putfield 27, 3) := by decide +kernel
theorem dX5_init_50 : decode cX5_init 50 = .ok (.aload_n 0, 1) := by decide +kernel
theorem dX5_init_51 : decode cX5_init 51 = .ok (.bipush 64, 2) := by decide +kernel
theorem dX5_init_53 : decode cX5_init 53 = .ok (.newarray .int, 2) := by decide +kernel
theorem dX5_init_55 : decode cX5_init 55 = .ok (.putfield 30, 3) := by decide +kernel
theorem dX5_init_58 : decode cX5_init 58 = .ok (.aload_n 0, 1) := by decide +kernel
theorem dX5_init_59 : decode cX5_init 59 = .ok (.bipush 24, 2) := by decide +kernel
theorem dX5_init_61 : decode cX5_init 61 = .ok (.newarray .int, 2) := by decide +kernel
theorem dX5_init_63 : decode cX5_init 63 = .ok (.putfield 33, 3) := by decide +kernel
theorem dX5_init_66 : decode cX5_init 66 = .ok (.aload_n 0, 1) := by decide +kernel
theorem dX5_init_67 : decode cX5_init 67 = .ok (.bipush 24, 2) := by decide +kernel
theorem dX5_init_69 : decode cX5_init 69 = .ok (.newarray .int, 2) := by decide +kernel
theorem dX5_init_71 : decode cX5_init 71 = .ok (.putfield 36, 3) := by decide +kernel
theorem dX5_init_74 : decode cX5_init 74 = .ok (.aload_n 0, 1) := by decide +kernel
theorem dX5_init_75 : decode cX5_init 75 = .ok (.bipush 20, 2) := by decide +kernel
theorem dX5_init_77 : decode cX5_init 77 = .ok (.putfield 39, 3) := by decide +kernel
theorem dX5_init_80 : decode cX5_init 80 = .ok (.aload_n 0, 1) := by decide +kernel
theorem dX5_init_81 : decode cX5_init 81 = .ok (.bipush 40, 2) := by decide +kernel
theorem dX5_init_83 : decode cX5_init 83 = .ok (.putfield 42, 3) := by decide +kernel
theorem dX5_init_86 : decode cX5_init 86 = .ok (.aload_n 0, 1) := by decide +kernel
theorem dX5_init_87 : decode cX5_init 87 = .ok (.bipush 10, 2) := by decide +kernel
theorem dX5_init_89 : decode cX5_init 89 = .ok (.putfield 45, 3) := by decide +kernel
theorem dX5_init_92 : decode cX5_init 92 = .ok (.aload_n 0, 1) := by decide +kernel
theorem dX5_init_93 : decode cX5_init 93 = .ok (.iconst 4, 1) := by decide +kernel
theorem dX5_init_94 : decode cX5_init 94 = .ok (.newarray .int, 2) := by decide +kernel
theorem dX5_init_96 : decode cX5_init 96 = .ok (.putfield 48, 3) := by decide +kernel
theorem dX5_init_99 : decode cX5_init 99 = .ok (.aload_n 0, 1) := by decide +kernel
theorem dX5_init_100 : decode cX5_init 100 = .ok (.iconst 4, 1) := by decide +kernel
theorem dX5_init_101 : decode cX5_init 101 = .ok (.newarray .int, 2) := by decide +kernel
theorem dX5_init_103 : decode cX5_init 103 = .ok (.putfield 51, 3) := by decide +kernel
theorem dX5_init_106 : decode cX5_init 106 = .ok (.aload_n 0, 1) := by decide +kernel
theorem dX5_init_107 : decode cX5_init 107 = .ok (.iconst 4, 1) := by decide +kernel
theorem dX5_init_108 : decode cX5_init 108 = .ok (.newarray .int, 2) := by decide +kernel
theorem dX5_init_110 : decode cX5_init 110 = .ok (.putfield 54, 3) := by decide +kernel
theorem dX5_init_113 : decode cX5_init 113 = .ok (.aload_n 0, 1) := by decide +kernel
theorem dX5_init_114 : decode cX5_init 114 = .ok (.bipush 81, 2) := by decide +kernel
theorem dX5_init_116 : decode cX5_init 116 = .ok (.newarray .int, 2) := by decide +kernel
theorem dX5_init_118 : decode cX5_init 118 = .ok (.putfield 57, 3) := by decide +kernel
theorem dX5_init_121 : decode cX5_init 121 = .ok (.aload_n 0, 1) := by decide +kernel
theorem dX5_init_122 : decode cX5_init 122 = .ok (.sipush 10584, 3) := by decide +kernel
theorem dX5_init_125 : decode cX5_init 125 = .ok (.newarray .int, 2) := by decide +kernel
theorem dX5_init_127 : decode cX5_init 127 = .ok (.putfield 60, 3) := by decide +kernel
theorem dX5_init_130 : decode cX5_init 130 = .ok (.aload_n 0, 1) := by decide +kernel
theorem dX5_init_131 : decode cX5_init 131 = .ok (.bipush 25, 2) := by decide +kernel
theorem dX5_init_133 : decode cX5_init 133 = .ok (.newarray .int, 2) := by decide +kernel
theorem dX5_init_135 : decode cX5_init 135 = .ok (.putfield 63, 3) := by decide +kernel
theorem dX5_init_138 : decode cX5_init 138 = .ok (.aload_n 0, 1) := by decide +kernel
theorem dX5_init_139 : decode cX5_init 139 = .ok (.bipush 24, 2) := by decide +kernel
theorem dX5_init_141 : decode cX5_init 141 = .ok (.newarray .int, 2) := by decide +kernel
theorem dX5_init_143 : decode cX5_init 143 = .ok (.putfield 66, 3) := by decide +kernel
theorem dX5_init_146 : decode cX5_init 146 = .ok (.aload_n 0, 1) := by decide +kernel
theorem dX5_init_147 : decode cX5_init 147 = .ok (.sipush 4608, 3) := by decide +kernel
theorem dX5_init_150 : decode cX5_init 150 = .ok (.newarray .int, 2) := by decide +kernel
theorem dX5_init_152 : decode cX5_init 152 = .ok (.putfield 69, 3) := by decide +kernel
theorem dX5_init_155 : decode cX5_init 155 = .ok (.aload_n 0, 1) := by decide +kernel
theorem dX5_init_156 : decode cX5_init 156 = .ok (.invokevirtual 72, 3) := by decide +kernel
theorem dX5_init_159 : decode cX5_init 159 = .ok (.return_, 1) := by decide +kernel
theorem dX5_in_0 : decode cX5_in 0 = .ok (.iload_n 0, 1) := by decide +kernel
theorem dX5_in_1 : decode cX5_in 1 = .ok (.iload_n 1, 1) := by decide +kernel
theorem dX5_in_2 : decode cX5_in 2 = .ok (.if_icmp .lt 12, 3) := by decide +kernel
theorem dX5_in_5 : decode cX5_in 5 = .ok (.iload_n 0, 1) := by decide +kernel
theorem dX5_in_6 : decode cX5_in 6 = .ok (.iload_n 2, 1) := by decide +kernel
theorem dX5_in_7 : decode cX5_in 7 = .ok (.if_icmp .gt 7, 3) := by decide +kernel
theorem dX5_in_10 : decode cX5_in 10 = .ok (.iconst 1, 1) := by decide +kernel
theorem dX5_in_11 : decode cX5_in 11 = .ok (.goto 4, 3) := by decide +kernel
theorem dX5_in_14 : decode cX5_in 14 = .ok (.iconst 0, 1) := by decide +kernel
theorem dX5_in_15 : decode cX5_in 15 = .ok (.ireturn, 1) := by decide +kernel
theorem dX5_size_0 : decode cX5_size 0 = .ok (.iload_n 0, 1) := by decide +kernel
theorem dX5_size_1 : decode cX5_size 1 = .ok (.ifCond .ge 8, 3) := by decide +kernel
theorem dX5_size_4 : decode cX5_size 4 = .ok (.iload_n 0, 1) := by decide +kernel
theorem dX5_size_5 : decode cX5_size 5 = .ok (.ineg, 1) := by decide +kernel
theorem dX5_size_6 : decode cX5_size 6 = .ok (.goto 4, 3) := by decide +kernel
theorem dX5_size_9 : decode cX5_size 9 = .ok (.iload_n 0, 1) := by decide +kernel
theorem dX5_size_10 : decode cX5_size 10 = .ok (.ireturn, 1) := by decide +kernel
set_option maxRecDepth 20000 in
theorem ggX5_isPlace_X5_in : GoodIn wsX5_isPlace wsX5_in := goodIn_r _ [5] (by decide +kernel) (by decide +kernel)
set_option maxRecDepth 20000 in
theorem gX5_isPlace_X5_in : GoodIn wsX5_isPlace (va_wsS RX5 75 yX5_in wsX5_in) := goodIn_app (goodIn_of _ (by decide +kernel)) ggX5_isPlace_X5_in
theorem dX5_isPlace_0 : decode cX5_isPlace 0 = .ok (.iload_n 1, 1) := by decide +kernel
theorem dX5_isPlace_1 : decode cX5_isPlace 1 = .ok (.iconst 0, 1) := by decide +kernel
theorem dX5_isPlace_2 : decode cX5_isPlace 2 = .ok (.aload_n 0, 1) := by decide +kernel
theorem dX5_isPlace_3 : decode cX5_isPlace 3 = .ok (.getfield 7, 3) := by decide +kernel
theorem dX5_isPlace_6 : decode cX5_isPlace 6 = .ok (.iconst 1, 1) := by decide +kernel
theorem dX5_isPlace_7 : decode cX5_isPlace 7 = .ok (.isub, 1) := by decide +kernel
theorem dX5_isPlace_8 : decode cX5_isPlace 8 = .ok (.invokestatic 75, 3) := by decide +kernel
theorem dX5_isPlace_11 : decode cX5_isPlace 11 = .ok (.ireturn, 1) := by decide +kernel
theorem dX5_begin_0 : decode cX5_begin 0 = .ok (.aload_n 0, 1) := by decide +kernel
theorem dX5_begin_1 : decode cX5_begin 1 = .ok (.iconst 0, 1) := by decide +kernel
theorem dX5_begin_2 : decode cX5_begin 2 = .ok (.putfield 79, 3) := by decide +kernel
theorem dX5_begin_5 : decode cX5_begin 5 = .ok (.iconst 0, 1) := by decide +kernel
theorem dX5_begin_6 : decode cX5_begin 6 = .ok (.istore_n 1, 1) := by decide +kernel
theorem dX5_begin_7 : decode cX5_begin 7 = .ok (.iload_n 1, 1) := by decide +kernel
theorem dX5_begin_8 : decode cX5_begin 8 = .ok (.bipush 64, 2) := by decide +kernel
theorem dX5_begin_10 : decode cX5_begin 10 = .ok (.if_icmp .ge 23, 3) := by decide +kernel
theorem dX5_begin_13 : decode cX5_begin 13 = .ok (.aload_n 0, 1) := by decide +kernel
theorem dX5_begin_14 : decode cX5_begin 14 = .ok (.getfield 27, 3) := by decide +kernel
theorem dX5_begin_17 : decode cX5_begin 17 = .ok (.iload_n 1, 1) := by decide +kernel
theorem dX5_begin_18 : decode cX5_begin 18 = .ok (.iload_n 1, 1) := by decide +kernel
theorem dX5_begin_19 : decode cX5_begin 19 = .ok (.iastore, 1) := by decide +kernel
theorem dX5_begin_20 : decode cX5_begin 20 = .ok (.aload_n 0, 1) := by decide +kernel
theorem dX5_begin_21 : decode cX5_begin 21 = .ok (.getfield 30, 3) := by decide +kernel
theorem dX5_begin_24 : decode cX5_begin 24 = .ok (.iload_n 1, 1) := by decide +kernel
theorem dX5_begin_25 : decode cX5_begin 25 = .ok (.iconst 0, 1) := by decide +kernel
theorem dX5_begin_26 : decode cX5_begin 26 = .ok (.iastore, 1) := by decide +kernel
theorem dX5_begin_27 : decode cX5_begin 27 = .ok (.iinc 1 1, 3) := by decide +kernel
theorem dX5_begin_30 : decode cX5_begin 30 = .ok (.goto (-23), 3) := by decide +kernel
theorem dX5_begin_33 : decode cX5_begin 33 = .ok (.return_, 1) := by decide +kernel
set_option maxRecDepth 20000 in
theorem ggX5_sheet_X5_in : GoodIn wsX5_sheet wsX5_in := goodIn_r _ [8] (by decide +kernel) (by decide +kernel)
set_option maxRecDepth 20000 in
theorem gX5_sheet_X5_in : GoodIn wsX5_sheet (va_wsS RX5 75 yX5_in wsX5_in) := goodIn_app (goodIn_of _ (by decide +kernel)) ggX5_sheet_X5_in
set_option maxRecDepth 20000 in
theorem ggX5_sheet_X5_begin : GoodIn wsX5_sheet wsX5_begin := goodIn_r _ [12, 13, 14, 15, 16, 17, 18, 19, 20, 21, 22, 23, 24, 25, 26, 27, 28, 29, 30, 31, 32, 33, 34, 35, 36, 37, 38, 39] (by decide +kernel) (by decide +kernel)
set_option maxRecDepth 20000 in
theorem gX5_sheet_X5_begin : GoodIn wsX5_sheet (wsV RX5 72 RX5 yX5_begin wsX5_begin) := goodIn_app (goodIn_of _ (by decide +kernel)) ggX5_sheet_X5_begin
theorem dX5_sheet_0 : decode cX5_sheet 0 = .ok (.iload_n 1, 1) := by decide +kernel
theorem dX5_sheet_1 : decode cX5_sheet 1 = .ok (.iconst 2, 1) := by decide +kernel
theorem dX5_sheet_2 : decode cX5_sheet 2 = .ok (.bipush 24, 2) := by decide +kernel
theorem dX5_sheet_4 : decode cX5_sheet 4 = .ok (.invokestatic 75, 3) := by decide +kernel
theorem dX5_sheet_7 : decode cX5_sheet 7 = .ok (.ifCond .ne 6, 3) := by decide +kernel
theorem dX5_sheet_10 : decode cX5_sheet 10 = .ok (.bipush (-2), 2) := by decide +kernel
theorem dX5_sheet_12 : decode cX5_sheet 12 = .ok (.ireturn, 1) := by decide +kernel
theorem dX5_sheet_13 : decode cX5_sheet 13 = .ok (.aload_n 0, 1) := by decide +kernel
theorem dX5_sheet_14 : decode cX5_sheet 14 = .ok (.getfield 7, 3) := by decide +kernel
theorem dX5_sheet_17 : decode cX5_sheet 17 = .ok (.istore_n 2, 1) := by decide +kernel
theorem dX5_sheet_18 : decode cX5_sheet 18 = .ok (.aload_n 0, 1) := by decide +kernel
theorem dX5_sheet_19 : decode cX5_sheet 19 = .ok (.iload_n 1, 1) := by decide +kernel
theorem dX5_sheet_20 : decode cX5_sheet 20 = .ok (.putfield 7, 3) := by decide +kernel
theorem dX5_sheet_23 : decode cX5_sheet 23 = .ok (.aload_n 0, 1) := by decide +kernel
theorem dX5_sheet_24 : decode cX5_sheet 24 = .ok (.iconst 0, 1) := by decide +kernel
theorem dX5_sheet_25 : decode cX5_sheet 25 = .ok (.putfield 82, 3) := by decide +kernel
theorem dX5_sheet_28 : decode cX5_sheet 28 = .ok (.iconst 0, 1) := by decide +kernel
theorem dX5_sheet_29 : decode cX5_sheet 29 = .ok (.istore_n 3, 1) := by decide +kernel
theorem dX5_sheet_30 : decode cX5_sheet 30 = .ok (.iload_n 3, 1) := by decide +kernel
theorem dX5_sheet_31 : decode cX5_sheet 31 = .ok (.bipush 24, 2) := by decide +kernel
theorem dX5_sheet_33 : decode cX5_sheet 33 = .ok (.if_icmp .ge 23, 3) := by decide +kernel
theorem dX5_sheet_36 : decode cX5_sheet 36 = .ok (.aload_n 0, 1) := by decide +kernel
theorem dX5_sheet_37 : decode cX5_sheet 37 = .ok (.getfield 33, 3) := by decide +kernel
theorem dX5_sheet_40 : decode cX5_sheet 40 = .ok (.iload_n 3, 1) := by decide +kernel
theorem dX5_sheet_41 : decode cX5_sheet 41 = .ok (.iconst 0, 1) := by decide +kernel
theorem dX5_sheet_42 : decode cX5_sheet 42 = .ok (.iastore, 1) := by decide +kernel
theorem dX5_sheet_43 : decode cX5_sheet 43 = .ok (.aload_n 0, 1) := by decide +kernel
theorem dX5_sheet_44 : decode cX5_sheet 44 = .ok (.getfield 36, 3) := by decide +kernel
theorem dX5_sheet_47 : decode cX5_sheet 47 = .ok (.iload_n 3, 1) := by decide +kernel
theorem dX5_sheet_48 : decode cX5_sheet 48 = .ok (.iconst 0, 1) := by decide +kernel
theorem dX5_sheet_49 : decode cX5_sheet 49 = .ok (.iastore, 1) := by decide +kernel
theorem dX5_sheet_50 : decode cX5_sheet 50 = .ok (.iinc 3 1, 3) := by decide +kernel
theorem dX5_sheet_53 : decode cX5_sheet 53 = .ok (.goto (-23), 3) := by decide +kernel
theorem dX5_sheet_56 : decode cX5_sheet 56 = .ok (.aload_n 0, 1) := by decide +kernel
theorem dX5_sheet_57 : decode cX5_sheet 57 = .ok (.invokevirtual 72, 3) := by decide +kernel
theorem dX5_sheet_60 : decode cX5_sheet 60 = .ok (.iload_n 2, 1) := by decide +kernel
theorem dX5_sheet_61 : decode cX5_sheet 61 = .ok (.ireturn, 1) := by decide +kernel
set_option maxRecDepth 20000 in
theorem ggX5_read_X5_isPlace : GoodIn wsX5_read wsX5_isPlace := goodIn_r _ [12, 13, 14, 15, 11, 16, 17, 18, 19, 20, 21, 22, 23, 24, 25, 26, 27, 28, 29, 30, 31, 32, 33, 34, 35, 36, 37, 38, 39, 40] (by decide +kernel) (by decide +kernel)
set_option maxRecDepth 20000 in
theorem gX5_read_X5_isPlace : GoodIn wsX5_read (wsV RX5 85 RX5 yX5_isPlace wsX5_isPlace) := goodIn_app (goodIn_of _ (by decide +kernel)) ggX5_read_X5_isPlace
set_option maxRecDepth 20000 in
theorem ggX5_read_X5_in : GoodIn wsX5_read wsX5_in := goodIn_r _ [16] (by decide +kernel) (by decide +kernel)
set_option maxRecDepth 20000 in
theorem gX5_read_X5_in : GoodIn wsX5_read (va_wsS RX5 75 yX5_in wsX5_in) := goodIn_app (goodIn_of _ (by decide +kernel)) ggX5_read_X5_in
theorem dX5_read_0 : decode cX5_read 0 = .ok (.aload_n 0, 1) := by decide +kernel
theorem dX5_read_1 : decode cX5_read 1 = .ok (.iload_n 2, 1) := by decide +kernel
theorem dX5_read_2 : decode cX5_read 2 = .ok (.invokevirtual 85, 3) := by decide +kernel
theorem dX5_read_5 : decode cX5_read 5 = .ok (.ifCond .ne 5, 3) := by decide +kernel
theorem dX5_read_8 : decode cX5_read 8 = .ok (.iconst (-1), 1) := by decide +kernel
theorem dX5_read_9 : decode cX5_read 9 = .ok (.ireturn, 1) := by decide +kernel
theorem dX5_read_10 : decode cX5_read 10 = .ok (.iload_n 1, 1) := by decide +kernel
theorem dX5_read_11 : decode cX5_read 11 = .ok (.iconst 0, 1) := by decide +kernel
theorem dX5_read_12 : decode cX5_read 12 = .ok (.bipush 39, 2) := by decide +kernel
theorem dX5_read_14 : decode cX5_read 14 = .ok (.invokestatic 75, 3) := by decide +kernel
theorem dX5_read_17 : decode cX5_read 17 = .ok (.ifCond .eq 16, 3) := by decide +kernel
theorem dX5_read_20 : decode cX5_read 20 = .ok (.iload_n 3, 1) := by decide +kernel
theorem dX5_read_21 : decode cX5_read 21 = .ok (.sipush (-1000), 3) := by decide +kernel
theorem dX5_read_24 : decode cX5_read 24 = .ok (.sipush 1000, 3) := by decide +kernel
theorem dX5_read_27 : decode cX5_read 27 = .ok (.invokestatic 75, 3) := by decide +kernel
theorem dX5_read_30 : decode cX5_read 30 = .ok (.ifCond .ne 6, 3) := by decide +kernel
theorem dX5_read_33 : decode cX5_read 33 = .ok (.bipush (-2), 2) := by decide +kernel
theorem dX5_read_35 : decode cX5_read 35 = .ok (.ireturn, 1) := by decide +kernel
theorem dX5_read_36 : decode cX5_read 36 = .ok (.aload_n 0, 1) := by decide +kernel
theorem dX5_read_37 : decode cX5_read 37 = .ok (.getfield 79, 3) := by decide +kernel
theorem dX5_read_40 : decode cX5_read 40 = .ok (.bipush 100, 2) := by decide +kernel
theorem dX5_read_42 : decode cX5_read 42 = .ok (.if_icmp .ne 6, 3) := by decide +kernel
theorem dX5_read_45 : decode cX5_read 45 = .ok (.bipush (-4), 2) := by decide +kernel
theorem dX5_read_47 : decode cX5_read 47 = .ok (.ireturn, 1) := by decide +kernel
theorem dX5_read_48 : decode cX5_read 48 = .ok (.iload_n 1, 1) := by decide +kernel
theorem dX5_read_49 : decode cX5_read 49 = .ok (.istore 4, 2) := by decide +kernel
theorem dX5_read_51 : decode cX5_read 51 = .ok (.bipush 40, 2) := by decide +kernel
theorem dX5_read_53 : decode cX5_read 53 = .ok (.iload_n 2, 1) := by decide +kernel
theorem dX5_read_54 : decode cX5_read 54 = .ok (.iadd, 1) := by decide +kernel
theorem dX5_read_55 : decode cX5_read 55 = .ok (.istore 5, 2) := by decide +kernel
theorem dX5_read_57 : decode cX5_read 57 = .ok (.iconst 1, 1) := by decide +kernel
theorem dX5_read_58 : decode cX5_read 58 = .ok (.istore 6, 2) := by decide +kernel
theorem dX5_read_60 : decode cX5_read 60 = .ok (.aload_n 0, 1) := by decide +kernel
theorem dX5_read_61 : decode cX5_read 61 = .ok (.getfield 27, 3) := by decide +kernel
theorem dX5_read_64 : decode cX5_read 64 = .ok (.iload 4, 2) := by decide +kernel
theorem dX5_read_66 : decode cX5_read 66 = .ok (.iaload, 1) := by decide +kernel
theorem dX5_read_67 : decode cX5_read 67 = .ok (.aload_n 0, 1) := by decide +kernel
theorem dX5_read_68 : decode cX5_read 68 = .ok (.getfield 27, 3) := by decide +kernel
theorem dX5_read_71 : decode cX5_read 71 = .ok (.iload 5, 2) := by decide +kernel
theorem dX5_read_73 : decode cX5_read 73 = .ok (.iaload, 1) := by decide +kernel
theorem dX5_read_74 : decode cX5_read 74 = .ok (.if_icmp .ne 32, 3) := by decide +kernel
theorem dX5_read_77 : decode cX5_read 77 = .ok (.aload_n 0, 1) := by decide +kernel
theorem dX5_read_78 : decode cX5_read 78 = .ok (.getfield 30, 3) := by decide +kernel
theorem dX5_read_81 : decode cX5_read 81 = .ok (.iload 4, 2) := by decide +kernel
theorem dX5_read_83 : decode cX5_read 83 = .ok (.iaload, 1) := by decide +kernel
theorem dX5_read_84 : decode cX5_read 84 = .ok (.aload_n 0, 1) := by decide +kernel
theorem dX5_read_85 : decode cX5_read 85 = .ok (.getfield 30, 3) := by decide +kernel
theorem dX5_read_88 : decode cX5_read 88 = .ok (.iload 5, 2) := by decide +kernel
theorem dX5_read_90 : decode cX5_read 90 = .ok (.iaload, 1) := by decide +kernel
theorem dX5_read_91 : decode cX5_read 91 = .ok (.isub, 1) := by decide +kernel
theorem dX5_read_92 : decode cX5_read 92 = .ok (.iload_n 3, 1) := by decide +kernel
theorem dX5_read_93 : decode cX5_read 93 = .ok (.if_icmp .ne 7, 3) := by decide +kernel
theorem dX5_read_96 : decode cX5_read 96 = .ok (.iconst 1, 1) := by decide +kernel
theorem dX5_read_97 : decode cX5_read 97 = .ok (.goto 4, 3) := by decide +kernel
theorem dX5_read_100 : decode cX5_read 100 = .ok (.iconst 0, 1) := by decide +kernel
theorem dX5_read_101 : decode cX5_read 101 = .ok (.istore 6, 2) := by decide +kernel
theorem dX5_read_103 : decode cX5_read 103 = .ok (.goto 85, 3) := by decide +kernel
theorem dX5_read_106 : decode cX5_read 106 = .ok (.aload_n 0, 1) := by decide +kernel
theorem dX5_read_107 : decode cX5_read 107 = .ok (.getfield 27, 3) := by decide +kernel
theorem dX5_read_110 : decode cX5_read 110 = .ok (.iload 5, 2) := by decide +kernel
theorem dX5_read_112 : decode cX5_read 112 = .ok (.iaload, 1) := by decide +kernel
theorem dX5_read_113 : decode cX5_read 113 = .ok (.istore 7, 2) := by decide +kernel
theorem dX5_read_115 : decode cX5_read 115 = .ok (.aload_n 0, 1) := by decide +kernel
theorem dX5_read_116 : decode cX5_read 116 = .ok (.getfield 30, 3) := by decide +kernel
theorem dX5_read_119 : decode cX5_read 119 = .ok (.iload 4, 2) := by decide +kernel
theorem dX5_read_121 : decode cX5_read 121 = .ok (.iaload, 1) := by decide +kernel
theorem dX5_read_122 : decode cX5_read 122 = .ok (.iload_n 3, 1) := by decide +kernel
theorem dX5_read_123 : decode cX5_read 123 = .ok (.isub, 1) := by decide +kernel
theorem dX5_read_124 : decode cX5_read 124 = .ok (.aload_n 0, 1) := by decide +kernel
theorem dX5_read_125 : decode cX5_read 125 = .ok (.getfield 30, 3) := by decide +kernel
theorem dX5_read_128 : decode cX5_read 128 = .ok (.iload 5, 2) := by decide +kernel
theorem dX5_read_130 : decode cX5_read 130 = .ok (.iaload, 1) := by decide +kernel
theorem dX5_read_131 : decode cX5_read 131 = .ok (.isub, 1) := by decide +kernel
theorem dX5_read_132 : decode cX5_read 132 = .ok (.istore 8, 2) := by decide +kernel
theorem dX5_read_134 : decode cX5_read 134 = .ok (.iconst 0, 1) := by decide +kernel
theorem dX5_read_135 : decode cX5_read 135 = .ok (.istore 9, 2) := by decide +kernel
theorem dX5_read_137 : decode cX5_read 137 = .ok (.iload 9, 2) := by decide +kernel
theorem dX5_read_139 : decode cX5_read 139 = .ok (.bipush 64, 2) := by decide +kernel
theorem dX5_read_141 : decode cX5_read 141 = .ok (.if_icmp .ge 47, 3) := by decide +kernel
theorem dX5_read_144 : decode cX5_read 144 = .ok (.aload_n 0, 1) := by decide +kernel
theorem dX5_read_145 : decode cX5_read 145 = .ok (.getfield 27, 3) := by decide +kernel
theorem dX5_read_148 : decode cX5_read 148 = .ok (.iload 9, 2) := by decide +kernel
theorem dX5_read_150 : decode cX5_read 150 = .ok (.iaload, 1) := by decide +kernel
theorem dX5_read_151 : decode cX5_read 151 = .ok (.iload 7, 2) := by decide +kernel
theorem dX5_read_153 : decode cX5_read 153 = .ok (.if_icmp .ne 29, 3) := by decide +kernel
theorem dX5_read_156 : decode cX5_read 156 = .ok (.aload_n 0, 1) := by decide +kernel
theorem dX5_read_157 : decode cX5_read 157 = .ok (.getfield 27, 3) := by decide +kernel
theorem dX5_read_160 : decode cX5_read 160 = .ok (.iload 9, 2) := by decide +kernel
theorem dX5_read_162 : decode cX5_read 162 = .ok (.aload_n 0, 1) := by decide +kernel
theorem dX5_read_163 : decode cX5_read 163 = .ok (.getfield 27, 3) := by decide +kernel
theorem dX5_read_166 : decode cX5_read 166 = .ok (.iload 4, 2) := by decide +kernel
theorem dX5_read_168 : decode cX5_read 168 = .ok (.iaload, 1) := by decide +kernel
theorem dX5_read_169 : decode cX5_read 169 = .ok (.iastore, 1) := by decide +kernel
theorem dX5_read_170 : decode cX5_read 170 = .ok (.aload_n 0, 1) := by decide +kernel
theorem dX5_read_171 : decode cX5_read 171 = .ok (.getfield 30, 3) := by decide +kernel
theorem dX5_read_174 : decode cX5_read 174 = .ok (.iload 9, 2) := by decide +kernel
theorem dX5_read_176 : decode cX5_read 176 = .ok (.dup2, 1) := by decide +kernel
theorem dX5_read_177 : decode cX5_read 177 = .ok (.iaload, 1) := by decide +kernel
theorem dX5_read_178 : decode cX5_read 178 = .ok (.iload 8, 2) := by decide +kernel
theorem dX5_read_180 : decode cX5_read 180 = .ok (.iadd, 1) := by decide +kernel
theorem dX5_read_181 : decode cX5_read 181 = .ok (.iastore, 1) := by decide +kernel
theorem dX5_read_182 : decode cX5_read 182 = .ok (.iinc 9 1, 3) := by decide +kernel
theorem dX5_read_185 : decode cX5_read 185 = .ok (.goto (-48), 3) := by decide +kernel
theorem dX5_read_188 : decode cX5_read 188 = .ok (.aload_n 0, 1) := by decide +kernel
theorem dX5_read_189 : decode cX5_read 189 = .ok (.getfield 13, 3) := by decide +kernel
theorem dX5_read_192 : decode cX5_read 192 = .ok (.aload_n 0, 1) := by decide +kernel
theorem dX5_read_193 : decode cX5_read 193 = .ok (.getfield 79, 3) := by decide +kernel
theorem dX5_read_196 : decode cX5_read 196 = .ok (.iload_n 1, 1) := by decide +kernel
theorem dX5_read_197 : decode cX5_read 197 = .ok (.iastore, 1) := by decide +kernel
theorem dX5_read_198 : decode cX5_read 198 = .ok (.aload_n 0, 1) := by decide +kernel
theorem dX5_read_199 : decode cX5_read 199 = .ok (.getfield 17, 3) := by decide +kernel
theorem dX5_read_202 : decode cX5_read 202 = .ok (.aload_n 0, 1) := by decide +kernel
theorem dX5_read_203 : decode cX5_read 203 = .ok (.getfield 79, 3) := by decide +kernel
theorem dX5_read_206 : decode cX5_read 206 = .ok (.iload_n 2, 1) := by decide +kernel
theorem dX5_read_207 : decode cX5_read 207 = .ok (.iastore, 1) := by decide +kernel
theorem dX5_read_208 : decode cX5_read 208 = .ok (.aload_n 0, 1) := by decide +kernel
theorem dX5_read_209 : decode cX5_read 209 = .ok (.getfield 20, 3) := by decide +kernel
theorem dX5_read_212 : decode cX5_read 212 = .ok (.aload_n 0, 1) := by decide +kernel
theorem dX5_read_213 : decode cX5_read 213 = .ok (.getfield 79, 3) := by decide +kernel
theorem dX5_read_216 : decode cX5_read 216 = .ok (.iload_n 3, 1) := by decide +kernel
theorem dX5_read_217 : decode cX5_read 217 = .ok (.iastore, 1) := by decide +kernel
theorem dX5_read_218 : decode cX5_read 218 = .ok (.aload_n 0, 1) := by decide +kernel
theorem dX5_read_219 : decode cX5_read 219 = .ok (.getfield 23, 3) := by decide +kernel
theorem dX5_read_222 : decode cX5_read 222 = .ok (.aload_n 0, 1) := by decide +kernel
theorem dX5_read_223 : decode cX5_read 223 = .ok (.getfield 79, 3) := by decide +kernel
theorem dX5_read_226 : decode cX5_read 226 = .ok (.iload 6, 2) := by decide +kernel
theorem dX5_read_228 : decode cX5_read 228 = .ok (.bastore, 1) := by decide +kernel
theorem dX5_read_229 : decode cX5_read 229 = .ok (.aload_n 0, 1) := by decide +kernel
theorem dX5_read_230 : decode cX5_read 230 = .ok (.dup, 1) := by decide +kernel
theorem dX5_read_231 : decode cX5_read 231 = .ok (.getfield 79, 3) := by decide +kernel
theorem dX5_read_234 : decode cX5_read 234 = .ok (.iconst 1, 1) := by decide +kernel
theorem dX5_read_235 : decode cX5_read 235 = .ok (.iadd, 1) := by decide +kernel
theorem dX5_read_236 : decode cX5_read 236 = .ok (.putfield 79, 3) := by decide +kernel
theorem dX5_read_239 : decode cX5_read 239 = .ok (.iload 6, 2) := by decide +kernel
theorem dX5_read_241 : decode cX5_read 241 = .ok (.ifCond .eq 7, 3) := by decide +kernel
theorem dX5_read_244 : decode cX5_read 244 = .ok (.iconst 1, 1) := by decide +kernel
theorem dX5_read_245 : decode cX5_read 245 = .ok (.goto 4, 3) := by decide +kernel
theorem dX5_read_248 : decode cX5_read 248 = .ok (.iconst 0, 1) := by decide +kernel
theorem dX5_read_249 : decode cX5_read 249 = .ok (.ireturn, 1) := by decide +kernel
set_option maxRecDepth 20000 in
theorem ggX5_reading_X5_in : GoodIn wsX5_reading wsX5_in := goodIn_r _ [11] (by decide +kernel) (by decide +kernel)
set_option maxRecDepth 20000 in
theorem gX5_reading_X5_in : GoodIn wsX5_reading (va_wsS RX5 75 yX5_in wsX5_in) := goodIn_app (goodIn_of _ (by decide +kernel)) ggX5_reading_X5_in
theorem dX5_reading_0 : decode cX5_reading 0 = .ok (.iload_n 1, 1) := by decide +kernel
theorem dX5_reading_1 : decode cX5_reading 1 = .ok (.iconst 0, 1) := by decide +kernel
theorem dX5_reading_2 : decode cX5_reading 2 = .ok (.aload_n 0, 1) := by decide +kernel
theorem dX5_reading_3 : decode cX5_reading 3 = .ok (.getfield 79, 3) := by decide +kernel
theorem dX5_reading_6 : decode cX5_reading 6 = .ok (.iconst 1, 1) := by decide +kernel
theorem dX5_reading_7 : decode cX5_reading 7 = .ok (.isub, 1) := by decide +kernel
theorem dX5_reading_8 : decode cX5_reading 8 = .ok (.invokestatic 75, 3) := by decide +kernel
theorem dX5_reading_11 : decode cX5_reading 11 = .ok (.ifCond .ne 6, 3) := by decide +kernel
theorem dX5_reading_14 : decode cX5_reading 14 = .ok (.ldc 89, 2) := by decide +kernel
theorem dX5_reading_16 : decode cX5_reading 16 = .ok (.ireturn, 1) := by decide +kernel
theorem dX5_reading_17 : decode cX5_reading 17 = .ok (.iload_n 2, 1) := by decide +kernel
theorem dX5_reading_18 : decode cX5_reading 18 = .ok (.tableswitch 66 0 3 #[30, 37, 44, 51], 30) := by decide +kernel
theorem dX5_reading_48 : decode cX5_reading 48 = .ok (.aload_n 0, 1) := by decide +kernel
theorem dX5_reading_49 : decode cX5_reading 49 = .ok (.getfield 13, 3) := by decide +kernel
theorem dX5_reading_52 : decode cX5_reading 52 = .ok (.iload_n 1, 1) := by decide +kernel
theorem dX5_reading_53 : decode cX5_reading 53 = .ok (.iaload, 1) := by decide +kernel
theorem dX5_reading_54 : decode cX5_reading 54 = .ok (.ireturn, 1) := by decide +kernel
theorem dX5_reading_55 : decode cX5_reading 55 = .ok (.aload_n 0, 1) := by decide +kernel
theorem dX5_reading_56 : decode cX5_reading 56 = .ok (.getfield 17, 3) := by decide +kernel
theorem dX5_reading_59 : decode cX5_reading 59 = .ok (.iload_n 1, 1) := by decide +kernel
theorem dX5_reading_60 : decode cX5_reading 60 = .ok (.iaload, 1) := by decide +kernel
theorem dX5_reading_61 : decode cX5_reading 61 = .ok (.ireturn, 1) := by decide +kernel
theorem dX5_reading_62 : decode cX5_reading 62 = .ok (.aload_n 0, 1) := by decide +kernel
theorem dX5_reading_63 : decode cX5_reading 63 = .ok (.getfield 20, 3) := by decide +kernel
theorem dX5_reading_66 : decode cX5_reading 66 = .ok (.iload_n 1, 1) := by decide +kernel
theorem dX5_reading_67 : decode cX5_reading 67 = .ok (.iaload, 1) := by decide +kernel
theorem dX5_reading_68 : decode cX5_reading 68 = .ok (.ireturn, 1) := by decide +kernel
theorem dX5_reading_69 : decode cX5_reading 69 = .ok (.aload_n 0, 1) := by decide +kernel
theorem dX5_reading_70 : decode cX5_reading 70 = .ok (.getfield 23, 3) := by decide +kernel
theorem dX5_reading_73 : decode cX5_reading 73 = .ok (.iload_n 1, 1) := by decide +kernel
theorem dX5_reading_74 : decode cX5_reading 74 = .ok (.baload, 1) := by decide +kernel
theorem dX5_reading_75 : decode cX5_reading 75 = .ok (.ifCond .eq 7, 3) := by decide +kernel
theorem dX5_reading_78 : decode cX5_reading 78 = .ok (.iconst 1, 1) := by decide +kernel
theorem dX5_reading_79 : decode cX5_reading 79 = .ok (.goto 4, 3) := by decide +kernel
theorem dX5_reading_82 : decode cX5_reading 82 = .ok (.iconst 0, 1) := by decide +kernel
theorem dX5_reading_83 : decode cX5_reading 83 = .ok (.ireturn, 1) := by decide +kernel
theorem dX5_reading_84 : decode cX5_reading 84 = .ok (.ldc 90, 2) := by decide +kernel
theorem dX5_reading_86 : decode cX5_reading 86 = .ok (.ireturn, 1) := by decide +kernel
theorem dX5_isAcross_0 : decode cX5_isAcross 0 = .ok (.aload_n 0, 1) := by decide +kernel
theorem dX5_isAcross_1 : decode cX5_isAcross 1 = .ok (.getfield 27, 3) := by decide +kernel
theorem dX5_isAcross_4 : decode cX5_isAcross 4 = .ok (.bipush 40, 2) := by decide +kernel
theorem dX5_isAcross_6 : decode cX5_isAcross 6 = .ok (.iload_n 1, 1) := by decide +kernel
theorem dX5_isAcross_7 : decode cX5_isAcross 7 = .ok (.iadd, 1) := by decide +kernel
theorem dX5_isAcross_8 : decode cX5_isAcross 8 = .ok (.iaload, 1) := by decide +kernel
theorem dX5_isAcross_9 : decode cX5_isAcross 9 = .ok (.aload_n 0, 1) := by decide +kernel
theorem dX5_isAcross_10 : decode cX5_isAcross 10 = .ok (.getfield 27, 3) := by decide +kernel
theorem dX5_isAcross_13 : decode cX5_isAcross 13 = .ok (.bipush 40, 2) := by decide +kernel
theorem dX5_isAcross_15 : decode cX5_isAcross 15 = .ok (.iaload, 1) := by decide +kernel
theorem dX5_isAcross_16 : decode cX5_isAcross 16 = .ok (.if_icmp .ne 7, 3) := by decide +kernel
theorem dX5_isAcross_19 : decode cX5_isAcross 19 = .ok (.iconst 1, 1) := by decide +kernel
theorem dX5_isAcross_20 : decode cX5_isAcross 20 = .ok (.goto 4, 3) := by decide +kernel
theorem dX5_isAcross_23 : decode cX5_isAcross 23 = .ok (.iconst 0, 1) := by decide +kernel
theorem dX5_isAcross_24 : decode cX5_isAcross 24 = .ok (.ireturn, 1) := by decide +kernel
theorem dX5_acrossOf_0 : decode cX5_acrossOf 0 = .ok (.aload_n 0, 1) := by decide +kernel
theorem dX5_acrossOf_1 : decode cX5_acrossOf 1 = .ok (.getfield 30, 3) := by decide +kernel
theorem dX5_acrossOf_4 : decode cX5_acrossOf 4 = .ok (.bipush 40, 2) := by decide +kernel
theorem dX5_acrossOf_6 : decode cX5_acrossOf 6 = .ok (.iaload, 1) := by decide +kernel
theorem dX5_acrossOf_7 : decode cX5_acrossOf 7 = .ok (.aload_n 0, 1) := by decide +kernel
theorem dX5_acrossOf_8 : decode cX5_acrossOf 8 = .ok (.getfield 30, 3) := by decide +kernel
theorem dX5_acrossOf_11 : decode cX5_acrossOf 11 = .ok (.bipush 40, 2) := by decide +kernel
theorem dX5_acrossOf_13 : decode cX5_acrossOf 13 = .ok (.iload_n 1, 1) := by decide +kernel
theorem dX5_acrossOf_14 : decode cX5_acrossOf 14 = .ok (.iadd, 1) := by decide +kernel
theorem dX5_acrossOf_15 : decode cX5_acrossOf 15 = .ok (.iaload, 1) := by decide +kernel
theorem dX5_acrossOf_16 : decode cX5_acrossOf 16 = .ok (.isub, 1) := by decide +kernel
theorem dX5_acrossOf_17 : decode cX5_acrossOf 17 = .ok (.ireturn, 1) := by decide +kernel
set_option maxRecDepth 20000 in
theorem ggX5_across_X5_isPlace : GoodIn wsX5_across wsX5_isPlace := goodIn_r _ [7, 8, 9, 10, 6, 11, 22, 23, 24, 25, 26, 27, 28, 29, 30, 31, 32, 33, 34, 35, 36, 37, 38, 39, 40, 41, 42, 43, 44, 45] (by decide +kernel) (by decide +kernel)
set_option maxRecDepth 20000 in
theorem gX5_across_X5_isPlace : GoodIn wsX5_across (wsV RX5 85 RX5 yX5_isPlace wsX5_isPlace) := goodIn_app (goodIn_of _ (by decide +kernel)) ggX5_across_X5_isPlace
set_option maxRecDepth 20000 in
theorem ggX5_across_X5_isAcross : GoodIn wsX5_across wsX5_isAcross := goodIn_r _ [15, 16, 22, 23, 24, 25, 26, 27, 28, 29, 30, 31, 32, 33, 34, 35, 36, 37, 38, 39, 40, 41, 42, 43, 44, 45] (by decide +kernel) (by decide +kernel)
set_option maxRecDepth 20000 in
theorem gX5_across_X5_isAcross : GoodIn wsX5_across (wsV RX5 91 RX5 yX5_isAcross wsX5_isAcross) := goodIn_app (goodIn_of _ (by decide +kernel)) ggX5_across_X5_isAcross
set_option maxRecDepth 20000 in
theorem ggX5_across_X5_acrossOf : GoodIn wsX5_across wsX5_acrossOf := goodIn_r _ [20, 21, 22, 23, 24, 25, 26, 27, 28, 29, 30, 31, 32, 33, 34, 35, 36, 37, 38, 39, 40, 41, 42, 43, 44, 45] (by decide +kernel) (by decide +kernel)
set_option maxRecDepth 20000 in
theorem gX5_across_X5_acrossOf : GoodIn wsX5_across (wsV RX5 94 RX5 yX5_acrossOf wsX5_acrossOf) := goodIn_app (goodIn_of _ (by decide +kernel)) ggX5_across_X5_acrossOf
theorem dX5_across_0 : decode cX5_across 0 = .ok (.aload_n 0, 1) := by decide +kernel
theorem dX5_across_1 : decode cX5_across 1 = .ok (.iload_n 1, 1) := by decide +kernel
theorem dX5_across_2 : decode cX5_across 2 = .ok (.invokevirtual 85, 3) := by decide +kernel
theorem dX5_across_5 : decode cX5_across 5 = .ok (.ifCond .ne 6, 3) := by decide +kernel
theorem dX5_across_8 : decode cX5_across 8 = .ok (.ldc 89, 2) := by decide +kernel
theorem dX5_across_10 : decode cX5_across 10 = .ok (.ireturn, 1) := by decide +kernel
theorem dX5_across_11 : decode cX5_across 11 = .ok (.aload_n 0, 1) := by decide +kernel
theorem dX5_across_12 : decode cX5_across 12 = .ok (.iload_n 1, 1) := by decide +kernel
theorem dX5_across_13 : decode cX5_across 13 = .ok (.invokevirtual 91, 3) := by decide +kernel
theorem dX5_across_16 : decode cX5_across 16 = .ok (.ifCond .eq 11, 3) := by decide +kernel
theorem dX5_across_19 : decode cX5_across 19 = .ok (.aload_n 0, 1) := by decide +kernel
theorem dX5_across_20 : decode cX5_across 20 = .ok (.iload_n 1, 1) := by decide +kernel
theorem dX5_across_21 : decode cX5_across 21 = .ok (.invokevirtual 94, 3) := by decide +kernel
theorem dX5_across_24 : decode cX5_across 24 = .ok (.goto 5, 3) := by decide +kernel
theorem dX5_across_27 : decode cX5_across 27 = .ok (.ldc 98, 2) := by decide +kernel
theorem dX5_across_29 : decode cX5_across 29 = .ok (.ireturn, 1) := by decide +kernel
set_option maxRecDepth 20000 in
theorem ggX5_along_X5_in : GoodIn wsX5_along wsX5_in := goodIn_r _ [8] (by decide +kernel) (by decide +kernel)
set_option maxRecDepth 20000 in
theorem gX5_along_X5_in : GoodIn wsX5_along (va_wsS RX5 75 yX5_in wsX5_in) := goodIn_app (goodIn_of _ (by decide +kernel)) ggX5_along_X5_in
theorem dX5_along_0 : decode cX5_along 0 = .ok (.iload_n 1, 1) := by decide +kernel
theorem dX5_along_1 : decode cX5_along 1 = .ok (.iconst 0, 1) := by decide +kernel
theorem dX5_along_2 : decode cX5_along 2 = .ok (.bipush 39, 2) := by decide +kernel
theorem dX5_along_4 : decode cX5_along 4 = .ok (.invokestatic 75, 3) := by decide +kernel
theorem dX5_along_7 : decode cX5_along 7 = .ok (.ifCond .eq 13, 3) := by decide +kernel
theorem dX5_along_10 : decode cX5_along 10 = .ok (.iload_n 2, 1) := by decide +kernel
theorem dX5_along_11 : decode cX5_along 11 = .ok (.iconst 0, 1) := by decide +kernel
theorem dX5_along_12 : decode cX5_along 12 = .ok (.bipush 39, 2) := by decide +kernel
theorem dX5_along_14 : decode cX5_along 14 = .ok (.invokestatic 75, 3) := by decide +kernel
theorem dX5_along_17 : decode cX5_along 17 = .ok (.ifCond .ne 6, 3) := by decide +kernel
theorem dX5_along_20 : decode cX5_along 20 = .ok (.ldc 89, 2) := by decide +kernel
theorem dX5_along_22 : decode cX5_along 22 = .ok (.ireturn, 1) := by decide +kernel
theorem dX5_along_23 : decode cX5_along 23 = .ok (.aload_n 0, 1) := by decide +kernel
theorem dX5_along_24 : decode cX5_along 24 = .ok (.getfield 27, 3) := by decide +kernel
theorem dX5_along_27 : decode cX5_along 27 = .ok (.iload_n 1, 1) := by decide +kernel
theorem dX5_along_28 : decode cX5_along 28 = .ok (.iaload, 1) := by decide +kernel
theorem dX5_along_29 : decode cX5_along 29 = .ok (.aload_n 0, 1) := by decide +kernel
theorem dX5_along_30 : decode cX5_along 30 = .ok (.getfield 27, 3) := by decide +kernel
theorem dX5_along_33 : decode cX5_along 33 = .ok (.iload_n 2, 1) := by decide +kernel
theorem dX5_along_34 : decode cX5_along 34 = .ok (.iaload, 1) := by decide +kernel
theorem dX5_along_35 : decode cX5_along 35 = .ok (.if_icmp .ne 19, 3) := by decide +kernel
theorem dX5_along_38 : decode cX5_along 38 = .ok (.aload_n 0, 1) := by decide +kernel
theorem dX5_along_39 : decode cX5_along 39 = .ok (.getfield 30, 3) := by decide +kernel
theorem dX5_along_42 : decode cX5_along 42 = .ok (.iload_n 1, 1) := by decide +kernel
theorem dX5_along_43 : decode cX5_along 43 = .ok (.iaload, 1) := by decide +kernel
theorem dX5_along_44 : decode cX5_along 44 = .ok (.aload_n 0, 1) := by decide +kernel
theorem dX5_along_45 : decode cX5_along 45 = .ok (.getfield 30, 3) := by decide +kernel
theorem dX5_along_48 : decode cX5_along 48 = .ok (.iload_n 2, 1) := by decide +kernel
theorem dX5_along_49 : decode cX5_along 49 = .ok (.iaload, 1) := by decide +kernel
theorem dX5_along_50 : decode cX5_along 50 = .ok (.isub, 1) := by decide +kernel
theorem dX5_along_51 : decode cX5_along 51 = .ok (.goto 5, 3) := by decide +kernel
theorem dX5_along_54 : decode cX5_along 54 = .ok (.ldc 98, 2) := by decide +kernel
theorem dX5_along_56 : decode cX5_along 56 = .ok (.ireturn, 1) := by decide +kernel
theorem dX5_groups_0 : decode cX5_groups 0 = .ok (.iconst 0, 1) := by decide +kernel
theorem dX5_groups_1 : decode cX5_groups 1 = .ok (.istore_n 1, 1) := by decide +kernel
theorem dX5_groups_2 : decode cX5_groups 2 = .ok (.iconst 0, 1) := by decide +kernel
theorem dX5_groups_3 : decode cX5_groups 3 = .ok (.istore_n 2, 1) := by decide +kernel
theorem dX5_groups_4 : decode cX5_groups 4 = .ok (.iload_n 2, 1) := by decide +kernel
theorem dX5_groups_5 : decode cX5_groups 5 = .ok (.aload_n 0, 1) := by decide +kernel
theorem dX5_groups_6 : decode cX5_groups 6 = .ok (.getfield 7, 3) := by decide +kernel
theorem dX5_groups_9 : decode cX5_groups 9 = .ok (.if_icmp .ge 70, 3) := by decide +kernel
theorem dX5_groups_12 : decode cX5_groups 12 = .ok (.iconst 1, 1) := by decide +kernel
theorem dX5_groups_13 : decode cX5_groups 13 = .ok (.istore_n 3, 1) := by decide +kernel
theorem dX5_groups_14 : decode cX5_groups 14 = .ok (.iconst 0, 1) := by decide +kernel
theorem dX5_groups_15 : decode cX5_groups 15 = .ok (.istore 4, 2) := by decide +kernel
theorem dX5_groups_17 : decode cX5_groups 17 = .ok (.iload 4, 2) := by decide +kernel
theorem dX5_groups_19 : decode cX5_groups 19 = .ok (.iload_n 2, 1) := by decide +kernel
theorem dX5_groups_20 : decode cX5_groups 20 = .ok (.if_icmp .ge 41, 3) := by decide +kernel
theorem dX5_groups_23 : decode cX5_groups 23 = .ok (.iload_n 3, 1) := by decide +kernel
theorem dX5_groups_24 : decode cX5_groups 24 = .ok (.ifCond .eq 29, 3) := by decide +kernel
theorem dX5_groups_27 : decode cX5_groups 27 = .ok (.aload_n 0, 1) := by decide +kernel
theorem dX5_groups_28 : decode cX5_groups 28 = .ok (.getfield 27, 3) := by decide +kernel
theorem dX5_groups_31 : decode cX5_groups 31 = .ok (.bipush 40, 2) := by decide +kernel
theorem dX5_groups_33 : decode cX5_groups 33 = .ok (.iload_n 2, 1) := by decide +kernel
theorem dX5_groups_34 : decode cX5_groups 34 = .ok (.iadd, 1) := by decide +kernel
theorem dX5_groups_35 : decode cX5_groups 35 = .ok (.iaload, 1) := by decide +kernel
theorem dX5_groups_36 : decode cX5_groups 36 = .ok (.aload_n 0, 1) := by decide +kernel
theorem dX5_groups_37 : decode cX5_groups 37 = .ok (.getfield 27, 3) := by decide +kernel
theorem dX5_groups_40 : decode cX5_groups 40 = .ok (.bipush 40, 2) := by decide +kernel
theorem dX5_groups_42 : decode cX5_groups 42 = .ok (.iload 4, 2) := by decide +kernel
theorem dX5_groups_44 : decode cX5_groups 44 = .ok (.iadd, 1) := by decide +kernel
theorem dX5_groups_45 : decode cX5_groups 45 = .ok (.iaload, 1) := by decide +kernel
theorem dX5_groups_46 : decode cX5_groups 46 = .ok (.if_icmp .eq 7, 3) := by decide +kernel
theorem dX5_groups_49 : decode cX5_groups 49 = .ok (.iconst 1, 1) := by decide +kernel
theorem dX5_groups_50 : decode cX5_groups 50 = .ok (.goto 4, 3) := by decide +kernel
theorem dX5_groups_53 : decode cX5_groups 53 = .ok (.iconst 0, 1) := by decide +kernel
theorem dX5_groups_54 : decode cX5_groups 54 = .ok (.istore_n 3, 1) := by decide +kernel
theorem dX5_groups_55 : decode cX5_groups 55 = .ok (.iinc 4 1, 3) := by decide +kernel
theorem dX5_groups_58 : decode cX5_groups 58 = .ok (.goto (-41), 3) := by decide +kernel
theorem dX5_groups_61 : decode cX5_groups 61 = .ok (.iload_n 1, 1) := by decide +kernel
theorem dX5_groups_62 : decode cX5_groups 62 = .ok (.iload_n 3, 1) := by decide +kernel
theorem dX5_groups_63 : decode cX5_groups 63 = .ok (.ifCond .eq 7, 3) := by decide +kernel
theorem dX5_groups_66 : decode cX5_groups 66 = .ok (.iconst 1, 1) := by decide +kernel
theorem dX5_groups_67 : decode cX5_groups 67 = .ok (.goto 4, 3) := by decide +kernel
theorem dX5_groups_70 : decode cX5_groups 70 = .ok (.iconst 0, 1) := by decide +kernel
theorem dX5_groups_71 : decode cX5_groups 71 = .ok (.iadd, 1) := by decide +kernel
theorem dX5_groups_72 : decode cX5_groups 72 = .ok (.istore_n 1, 1) := by decide +kernel
theorem dX5_groups_73 : decode cX5_groups 73 = .ok (.iinc 2 1, 3) := by decide +kernel
theorem dX5_groups_76 : decode cX5_groups 76 = .ok (.goto (-72), 3) := by decide +kernel
theorem dX5_groups_79 : decode cX5_groups 79 = .ok (.iload_n 1, 1) := by decide +kernel
theorem dX5_groups_80 : decode cX5_groups 80 = .ok (.ireturn, 1) := by decide +kernel
set_option maxRecDepth 20000 in
theorem ggX5_take_X5_isAcross : GoodIn wsX5_take wsX5_isAcross := goodIn_r _ [7, 8, 17, 18, 19, 20, 21, 22, 23, 24, 25, 26, 27, 28, 29, 30, 31, 32, 33, 34, 35, 36, 37, 38, 39, 40] (by decide +kernel) (by decide +kernel)
set_option maxRecDepth 20000 in
theorem gX5_take_X5_isAcross : GoodIn wsX5_take (wsV RX5 91 RX5 yX5_isAcross wsX5_isAcross) := goodIn_app (goodIn_of _ (by decide +kernel)) ggX5_take_X5_isAcross
set_option maxRecDepth 20000 in
theorem ggX5_take_X5_acrossOf : GoodIn wsX5_take wsX5_acrossOf := goodIn_r _ [12, 13, 17, 18, 19, 20, 21, 22, 23, 24, 25, 26, 27, 28, 29, 30, 31, 32, 33, 34, 35, 36, 37, 38, 39, 40] (by decide +kernel) (by decide +kernel)
set_option maxRecDepth 20000 in
theorem gX5_take_X5_acrossOf : GoodIn wsX5_take (wsV RX5 94 RX5 yX5_acrossOf wsX5_acrossOf) := goodIn_app (goodIn_of _ (by decide +kernel)) ggX5_take_X5_acrossOf
set_option maxRecDepth 20000 in
theorem ggX5_take_X5_in : GoodIn wsX5_take wsX5_in := goodIn_r _ [16] (by decide +kernel) (by decide +kernel)
set_option maxRecDepth 20000 in
theorem gX5_take_X5_in : GoodIn wsX5_take (va_wsS RX5 75 yX5_in wsX5_in) := goodIn_app (goodIn_of _ (by decide +kernel)) ggX5_take_X5_in
theorem dX5_take_0 : decode cX5_take 0 = .ok (.iconst 0, 1) := by decide +kernel
theorem dX5_take_1 : decode cX5_take 1 = .ok (.istore_n 1, 1) := by decide +kernel
theorem dX5_take_2 : decode cX5_take 2 = .ok (.iload_n 1, 1) := by decide +kernel
theorem dX5_take_3 : decode cX5_take 3 = .ok (.aload_n 0, 1) := by decide +kernel
theorem dX5_take_4 : decode cX5_take 4 = .ok (.getfield 7, 3) := by decide +kernel
theorem dX5_take_7 : decode cX5_take 7 = .ok (.if_icmp .ge 37, 3) := by decide +kernel
theorem dX5_take_10 : decode cX5_take 10 = .ok (.aload_n 0, 1) := by decide +kernel
theorem dX5_take_11 : decode cX5_take 11 = .ok (.iload_n 1, 1) := by decide +kernel
theorem dX5_take_12 : decode cX5_take 12 = .ok (.invokevirtual 91, 3) := by decide +kernel
theorem dX5_take_15 : decode cX5_take 15 = .ok (.ifCond .eq 20, 3) := by decide +kernel
theorem dX5_take_18 : decode cX5_take 18 = .ok (.aload_n 0, 1) := by decide +kernel
theorem dX5_take_19 : decode cX5_take 19 = .ok (.iload_n 1, 1) := by decide +kernel
theorem dX5_take_20 : decode cX5_take 20 = .ok (.invokevirtual 94, 3) := by decide +kernel
theorem dX5_take_23 : decode cX5_take 23 = .ok (.sipush (-2000), 3) := by decide +kernel
theorem dX5_take_26 : decode cX5_take 26 = .ok (.sipush 2000, 3) := by decide +kernel
theorem dX5_take_29 : decode cX5_take 29 = .ok (.invokestatic 75, 3) := by decide +kernel
theorem dX5_take_32 : decode cX5_take 32 = .ok (.ifCond .ne 6, 3) := by decide +kernel
theorem dX5_take_35 : decode cX5_take 35 = .ok (.bipush (-5), 2) := by decide +kernel
theorem dX5_take_37 : decode cX5_take 37 = .ok (.ireturn, 1) := by decide +kernel
theorem dX5_take_38 : decode cX5_take 38 = .ok (.iinc 1 1, 3) := by decide +kernel
theorem dX5_take_41 : decode cX5_take 41 = .ok (.goto (-39), 3) := by decide +kernel
theorem dX5_take_44 : decode cX5_take 44 = .ok (.iconst 0, 1) := by decide +kernel
theorem dX5_take_45 : decode cX5_take 45 = .ok (.istore_n 1, 1) := by decide +kernel
theorem dX5_take_46 : decode cX5_take 46 = .ok (.iload_n 1, 1) := by decide +kernel
theorem dX5_take_47 : decode cX5_take 47 = .ok (.aload_n 0, 1) := by decide +kernel
theorem dX5_take_48 : decode cX5_take 48 = .ok (.getfield 7, 3) := by decide +kernel
theorem dX5_take_51 : decode cX5_take 51 = .ok (.if_icmp .ge 20, 3) := by decide +kernel
theorem dX5_take_54 : decode cX5_take 54 = .ok (.aload_n 0, 1) := by decide +kernel
theorem dX5_take_55 : decode cX5_take 55 = .ok (.getfield 33, 3) := by decide +kernel
theorem dX5_take_58 : decode cX5_take 58 = .ok (.iload_n 1, 1) := by decide +kernel
theorem dX5_take_59 : decode cX5_take 59 = .ok (.aload_n 0, 1) := by decide +kernel
theorem dX5_take_60 : decode cX5_take 60 = .ok (.iload_n 1, 1) := by decide +kernel
theorem dX5_take_61 : decode cX5_take 61 = .ok (.invokevirtual 94, 3) := by decide +kernel
theorem dX5_take_64 : decode cX5_take 64 = .ok (.iastore, 1) := by decide +kernel
theorem dX5_take_65 : decode cX5_take 65 = .ok (.iinc 1 1, 3) := by decide +kernel
theorem dX5_take_68 : decode cX5_take 68 = .ok (.goto (-22), 3) := by decide +kernel
theorem dX5_take_71 : decode cX5_take 71 = .ok (.iconst 1, 1) := by decide +kernel
theorem dX5_take_72 : decode cX5_take 72 = .ok (.ireturn, 1) := by decide +kernel
set_option maxRecDepth 20000 in
theorem ggX5_clear_X5_begin : GoodIn wsX5_clear wsX5_begin := goodIn_r _ [6, 1, 7, 8, 9, 10, 11, 12, 13, 14, 15, 16, 17, 18, 19, 20, 21, 22, 23, 24, 25, 26, 27, 28, 29, 30, 31, 32] (by decide +kernel) (by decide +kernel)
set_option maxRecDepth 20000 in
theorem gX5_clear_X5_begin : GoodIn wsX5_clear (wsV RX5 72 RX5 yX5_begin wsX5_begin) := goodIn_app (goodIn_of _ (by decide +kernel)) ggX5_clear_X5_begin
theorem dX5_clear_0 : decode cX5_clear 0 = .ok (.aload_n 0, 1) := by decide +kernel
theorem dX5_clear_1 : decode cX5_clear 1 = .ok (.getfield 79, 3) := by decide +kernel
theorem dX5_clear_4 : decode cX5_clear 4 = .ok (.istore_n 1, 1) := by decide +kernel
theorem dX5_clear_5 : decode cX5_clear 5 = .ok (.aload_n 0, 1) := by decide +kernel
theorem dX5_clear_6 : decode cX5_clear 6 = .ok (.invokevirtual 72, 3) := by decide +kernel
theorem dX5_clear_9 : decode cX5_clear 9 = .ok (.iload_n 1, 1) := by decide +kernel
theorem dX5_clear_10 : decode cX5_clear 10 = .ok (.ireturn, 1) := by decide +kernel
set_option maxRecDepth 20000 in
theorem ggX5_areLawful_X5_size : GoodIn wsX5_areLawful wsX5_size := goodIn_r _ [6] (by decide +kernel) (by decide +kernel)
set_option maxRecDepth 20000 in
theorem gX5_areLawful_X5_size : GoodIn wsX5_areLawful (va_wsS RX5 99 yX5_size wsX5_size) := goodIn_app (goodIn_of _ (by decide +kernel)) ggX5_areLawful_X5_size
theorem dX5_areLawful_0 : decode cX5_areLawful 0 = .ok (.iconst 1, 1) := by decide +kernel
theorem dX5_areLawful_1 : decode cX5_areLawful 1 = .ok (.istore_n 3, 1) := by decide +kernel
theorem dX5_areLawful_2 : decode cX5_areLawful 2 = .ok (.iconst 0, 1) := by decide +kernel
theorem dX5_areLawful_3 : decode cX5_areLawful 3 = .ok (.istore 4, 2) := by decide +kernel
theorem dX5_areLawful_5 : decode cX5_areLawful 5 = .ok (.iload 4, 2) := by decide +kernel
theorem dX5_areLawful_7 : decode cX5_areLawful 7 = .ok (.aload_n 0, 1) := by decide +kernel
theorem dX5_areLawful_8 : decode cX5_areLawful 8 = .ok (.getfield 7, 3) := by decide +kernel
theorem dX5_areLawful_11 : decode cX5_areLawful 11 = .ok (.if_icmp .ge 100, 3) := by decide +kernel
theorem dX5_areLawful_14 : decode cX5_areLawful 14 = .ok (.iload_n 3, 1) := by decide +kernel
theorem dX5_areLawful_15 : decode cX5_areLawful 15 = .ok (.ifCond .eq 36, 3) := by decide +kernel
theorem dX5_areLawful_18 : decode cX5_areLawful 18 = .ok (.iload 4, 2) := by decide +kernel
theorem dX5_areLawful_20 : decode cX5_areLawful 20 = .ok (.ifCond .eq 27, 3) := by decide +kernel
theorem dX5_areLawful_23 : decode cX5_areLawful 23 = .ok (.aload_n 0, 1) := by decide +kernel
theorem dX5_areLawful_24 : decode cX5_areLawful 24 = .ok (.getfield 36, 3) := by decide +kernel
theorem dX5_areLawful_27 : decode cX5_areLawful 27 = .ok (.iload 4, 2) := by decide +kernel
theorem dX5_areLawful_29 : decode cX5_areLawful 29 = .ok (.iaload, 1) := by decide +kernel
theorem dX5_areLawful_30 : decode cX5_areLawful 30 = .ok (.aload_n 0, 1) := by decide +kernel
theorem dX5_areLawful_31 : decode cX5_areLawful 31 = .ok (.getfield 36, 3) := by decide +kernel
theorem dX5_areLawful_34 : decode cX5_areLawful 34 = .ok (.iload 4, 2) := by decide +kernel
theorem dX5_areLawful_36 : decode cX5_areLawful 36 = .ok (.iconst 1, 1) := by decide +kernel
theorem dX5_areLawful_37 : decode cX5_areLawful 37 = .ok (.isub, 1) := by decide +kernel
theorem dX5_areLawful_38 : decode cX5_areLawful 38 = .ok (.iaload, 1) := by decide +kernel
theorem dX5_areLawful_39 : decode cX5_areLawful 39 = .ok (.isub, 1) := by decide +kernel
theorem dX5_areLawful_40 : decode cX5_areLawful 40 = .ok (.invokestatic 99, 3) := by decide +kernel
theorem dX5_areLawful_43 : decode cX5_areLawful 43 = .ok (.iload_n 1, 1) := by decide +kernel
theorem dX5_areLawful_44 : decode cX5_areLawful 44 = .ok (.if_icmp .gt 7, 3) := by decide +kernel
theorem dX5_areLawful_47 : decode cX5_areLawful 47 = .ok (.iconst 1, 1) := by decide +kernel
theorem dX5_areLawful_48 : decode cX5_areLawful 48 = .ok (.goto 4, 3) := by decide +kernel
theorem dX5_areLawful_51 : decode cX5_areLawful 51 = .ok (.iconst 0, 1) := by decide +kernel
theorem dX5_areLawful_52 : decode cX5_areLawful 52 = .ok (.istore_n 3, 1) := by decide +kernel
theorem dX5_areLawful_53 : decode cX5_areLawful 53 = .ok (.iload_n 3, 1) := by decide +kernel
theorem dX5_areLawful_54 : decode cX5_areLawful 54 = .ok (.ifCond .eq 49, 3) := by decide +kernel
theorem dX5_areLawful_57 : decode cX5_areLawful 57 = .ok (.iload 4, 2) := by decide +kernel
theorem dX5_areLawful_59 : decode cX5_areLawful 59 = .ok (.iconst 2, 1) := by decide +kernel
theorem dX5_areLawful_60 : decode cX5_areLawful 60 = .ok (.if_icmp .lt 39, 3) := by decide +kernel
theorem dX5_areLawful_63 : decode cX5_areLawful 63 = .ok (.iconst 2, 1) := by decide +kernel
theorem dX5_areLawful_64 : decode cX5_areLawful 64 = .ok (.aload_n 0, 1) := by decide +kernel
theorem dX5_areLawful_65 : decode cX5_areLawful 65 = .ok (.getfield 36, 3) := by decide +kernel
theorem dX5_areLawful_68 : decode cX5_areLawful 68 = .ok (.iload 4, 2) := by decide +kernel
theorem dX5_areLawful_70 : decode cX5_areLawful 70 = .ok (.iconst 1, 1) := by decide +kernel
theorem dX5_areLawful_71 : decode cX5_areLawful 71 = .ok (.isub, 1) := by decide +kernel
theorem dX5_areLawful_72 : decode cX5_areLawful 72 = .ok (.iaload, 1) := by decide +kernel
theorem dX5_areLawful_73 : decode cX5_areLawful 73 = .ok (.imul, 1) := by decide +kernel
theorem dX5_areLawful_74 : decode cX5_areLawful 74 = .ok (.aload_n 0, 1) := by decide +kernel
theorem dX5_areLawful_75 : decode cX5_areLawful 75 = .ok (.getfield 36, 3) := by decide +kernel
theorem dX5_areLawful_78 : decode cX5_areLawful 78 = .ok (.iload 4, 2) := by decide +kernel
theorem dX5_areLawful_80 : decode cX5_areLawful 80 = .ok (.iaload, 1) := by decide +kernel
theorem dX5_areLawful_81 : decode cX5_areLawful 81 = .ok (.isub, 1) := by decide +kernel
theorem dX5_areLawful_82 : decode cX5_areLawful 82 = .ok (.aload_n 0, 1) := by decide +kernel
theorem dX5_areLawful_83 : decode cX5_areLawful 83 = .ok (.getfield 36, 3) := by decide +kernel
theorem dX5_areLawful_86 : decode cX5_areLawful 86 = .ok (.iload 4, 2) := by decide +kernel
theorem dX5_areLawful_88 : decode cX5_areLawful 88 = .ok (.iconst 2, 1) := by decide +kernel
theorem dX5_areLawful_89 : decode cX5_areLawful 89 = .ok (.isub, 1) := by decide +kernel
theorem dX5_areLawful_90 : decode cX5_areLawful 90 = .ok (.iaload, 1) := by decide +kernel
theorem dX5_areLawful_91 : decode cX5_areLawful 91 = .ok (.isub, 1) := by decide +kernel
theorem dX5_areLawful_92 : decode cX5_areLawful 92 = .ok (.invokestatic 99, 3) := by decide +kernel
theorem dX5_areLawful_95 : decode cX5_areLawful 95 = .ok (.iload_n 2, 1) := by decide +kernel
theorem dX5_areLawful_96 : decode cX5_areLawful 96 = .ok (.if_icmp .gt 7, 3) := by decide +kernel
theorem dX5_areLawful_99 : decode cX5_areLawful 99 = .ok (.iconst 1, 1) := by decide +kernel
theorem dX5_areLawful_100 : decode cX5_areLawful 100 = .ok (.goto 4, 3) := by decide +kernel
theorem dX5_areLawful_103 : decode cX5_areLawful 103 = .ok (.iconst 0, 1) := by decide +kernel
theorem dX5_areLawful_104 : decode cX5_areLawful 104 = .ok (.istore_n 3, 1) := by decide +kernel
theorem dX5_areLawful_105 : decode cX5_areLawful 105 = .ok (.iinc 4 1, 3) := by decide +kernel
theorem dX5_areLawful_108 : decode cX5_areLawful 108 = .ok (.goto (-103), 3) := by decide +kernel
theorem dX5_areLawful_111 : decode cX5_areLawful 111 = .ok (.iload_n 3, 1) := by decide +kernel
theorem dX5_areLawful_112 : decode cX5_areLawful 112 = .ok (.ireturn, 1) := by decide +kernel
set_option maxRecDepth 20000 in
theorem ggX5_laws_X5_in : GoodIn wsX5_laws wsX5_in := goodIn_r _ [6] (by decide +kernel) (by decide +kernel)
set_option maxRecDepth 20000 in
theorem gX5_laws_X5_in : GoodIn wsX5_laws (va_wsS RX5 75 yX5_in wsX5_in) := goodIn_app (goodIn_of _ (by decide +kernel)) ggX5_laws_X5_in
set_option maxRecDepth 20000 in
theorem ggX5_laws_X5_areLawful : GoodIn wsX5_laws wsX5_areLawful := goodIn_r _ [10, 11, 12, 13, 14, 5, 15, 16, 17, 18, 19, 20, 21, 22, 23, 24, 25, 26, 27, 28, 29, 30, 31, 32, 33, 34, 35, 36, 37, 38, 39] (by decide +kernel) (by decide +kernel)
set_option maxRecDepth 20000 in
theorem gX5_laws_X5_areLawful : GoodIn wsX5_laws (wsV RX5 102 RX5 yX5_areLawful wsX5_areLawful) := goodIn_app (goodIn_of _ (by decide +kernel)) ggX5_laws_X5_areLawful
theorem dX5_laws_0 : decode cX5_laws 0 = .ok (.iload_n 1, 1) := by decide +kernel
theorem dX5_laws_1 : decode cX5_laws 1 = .ok (.iconst 0, 1) := by decide +kernel
theorem dX5_laws_2 : decode cX5_laws 2 = .ok (.bipush 20, 2) := by decide +kernel
theorem dX5_laws_4 : decode cX5_laws 4 = .ok (.invokestatic 75, 3) := by decide +kernel
theorem dX5_laws_7 : decode cX5_laws 7 = .ok (.ifCond .eq 13, 3) := by decide +kernel
theorem dX5_laws_10 : decode cX5_laws 10 = .ok (.iload_n 2, 1) := by decide +kernel
theorem dX5_laws_11 : decode cX5_laws 11 = .ok (.iconst 0, 1) := by decide +kernel
theorem dX5_laws_12 : decode cX5_laws 12 = .ok (.bipush 40, 2) := by decide +kernel
theorem dX5_laws_14 : decode cX5_laws 14 = .ok (.invokestatic 75, 3) := by decide +kernel
theorem dX5_laws_17 : decode cX5_laws 17 = .ok (.ifCond .ne 6, 3) := by decide +kernel
theorem dX5_laws_20 : decode cX5_laws 20 = .ok (.bipush (-2), 2) := by decide +kernel
theorem dX5_laws_22 : decode cX5_laws 22 = .ok (.ireturn, 1) := by decide +kernel
theorem dX5_laws_23 : decode cX5_laws 23 = .ok (.aload_n 0, 1) := by decide +kernel
theorem dX5_laws_24 : decode cX5_laws 24 = .ok (.iload_n 1, 1) := by decide +kernel
theorem dX5_laws_25 : decode cX5_laws 25 = .ok (.iload_n 2, 1) := by decide +kernel
theorem dX5_laws_26 : decode cX5_laws 26 = .ok (.invokevirtual 102, 3) := by decide +kernel
theorem dX5_laws_29 : decode cX5_laws 29 = .ok (.ifCond .ne 6, 3) := by decide +kernel
theorem dX5_laws_32 : decode cX5_laws 32 = .ok (.bipush (-5), 2) := by decide +kernel
theorem dX5_laws_34 : decode cX5_laws 34 = .ok (.ireturn, 1) := by decide +kernel
theorem dX5_laws_35 : decode cX5_laws 35 = .ok (.aload_n 0, 1) := by decide +kernel
theorem dX5_laws_36 : decode cX5_laws 36 = .ok (.iload_n 1, 1) := by decide +kernel
theorem dX5_laws_37 : decode cX5_laws 37 = .ok (.putfield 39, 3) := by decide +kernel
theorem dX5_laws_40 : decode cX5_laws 40 = .ok (.aload_n 0, 1) := by decide +kernel
theorem dX5_laws_41 : decode cX5_laws 41 = .ok (.iload_n 2, 1) := by decide +kernel
theorem dX5_laws_42 : decode cX5_laws 42 = .ok (.putfield 42, 3) := by decide +kernel
theorem dX5_laws_45 : decode cX5_laws 45 = .ok (.iconst 1, 1) := by decide +kernel
theorem dX5_laws_46 : decode cX5_laws 46 = .ok (.ireturn, 1) := by decide +kernel
set_option maxRecDepth 20000 in
theorem ggX5_spread_X5_in : GoodIn wsX5_spread wsX5_in := goodIn_r _ [6] (by decide +kernel) (by decide +kernel)
set_option maxRecDepth 20000 in
theorem gX5_spread_X5_in : GoodIn wsX5_spread (va_wsS RX5 75 yX5_in wsX5_in) := goodIn_app (goodIn_of _ (by decide +kernel)) ggX5_spread_X5_in
theorem dX5_spread_0 : decode cX5_spread 0 = .ok (.iload_n 1, 1) := by decide +kernel
theorem dX5_spread_1 : decode cX5_spread 1 = .ok (.iconst 1, 1) := by decide +kernel
theorem dX5_spread_2 : decode cX5_spread 2 = .ok (.bipush 20, 2) := by decide +kernel
theorem dX5_spread_4 : decode cX5_spread 4 = .ok (.invokestatic 75, 3) := by decide +kernel
theorem dX5_spread_7 : decode cX5_spread 7 = .ok (.ifCond .eq 13, 3) := by decide +kernel
theorem dX5_spread_10 : decode cX5_spread 10 = .ok (.iload_n 2, 1) := by decide +kernel
theorem dX5_spread_11 : decode cX5_spread 11 = .ok (.bipush (-5), 2) := by decide +kernel
theorem dX5_spread_13 : decode cX5_spread 13 = .ok (.iconst 5, 1) := by decide +kernel
theorem dX5_spread_14 : decode cX5_spread 14 = .ok (.invokestatic 75, 3) := by decide +kernel
theorem dX5_spread_17 : decode cX5_spread 17 = .ok (.ifCond .ne 6, 3) := by decide +kernel
theorem dX5_spread_20 : decode cX5_spread 20 = .ok (.bipush (-2), 2) := by decide +kernel
theorem dX5_spread_22 : decode cX5_spread 22 = .ok (.ireturn, 1) := by decide +kernel
theorem dX5_spread_23 : decode cX5_spread 23 = .ok (.aload_n 0, 1) := by decide +kernel
theorem dX5_spread_24 : decode cX5_spread 24 = .ok (.iload_n 1, 1) := by decide +kernel
theorem dX5_spread_25 : decode cX5_spread 25 = .ok (.putfield 45, 3) := by decide +kernel
theorem dX5_spread_28 : decode cX5_spread 28 = .ok (.aload_n 0, 1) := by decide +kernel
theorem dX5_spread_29 : decode cX5_spread 29 = .ok (.iload_n 2, 1) := by decide +kernel
theorem dX5_spread_30 : decode cX5_spread 30 = .ok (.putfield 106, 3) := by decide +kernel
theorem dX5_spread_33 : decode cX5_spread 33 = .ok (.iconst 1, 1) := by decide +kernel
theorem dX5_spread_34 : decode cX5_spread 34 = .ok (.ireturn, 1) := by decide +kernel
set_option maxRecDepth 20000 in
theorem ggX5_base_X5_isPlace : GoodIn wsX5_base wsX5_isPlace := goodIn_r _ [6, 7, 8, 9, 5, 10, 11, 12, 13, 14, 15, 16, 17, 18, 19, 20, 21, 22, 23, 24, 25, 26, 27, 28, 29, 30, 31, 32, 33, 34] (by decide +kernel) (by decide +kernel)
end
section
set_option maxRecDepth 20000 in
theorem gX5_base_X5_isPlace : GoodIn wsX5_base (wsV RX5 85 RX5 yX5_isPlace wsX5_isPlace) := goodIn_app (goodIn_of _ (by decide +kernel)) ggX5_base_X5_isPlace
set_option maxRecDepth 20000 in
theorem ggX5_base_X5_in : GoodIn wsX5_base wsX5_in := goodIn_r _ [10] (by decide +kernel) (by decide +kernel)
set_option maxRecDepth 20000 in
theorem gX5_base_X5_in : GoodIn wsX5_base (va_wsS RX5 75 yX5_in wsX5_in) := goodIn_app (goodIn_of _ (by decide +kernel)) ggX5_base_X5_in
theorem dX5_base_0 : decode cX5_base 0 = .ok (.aload_n 0, 1) := by decide +kernel
theorem dX5_base_1 : decode cX5_base 1 = .ok (.iload_n 1, 1) := by decide +kernel
theorem dX5_base_2 : decode cX5_base 2 = .ok (.invokevirtual 85, 3) := by decide +kernel
theorem dX5_base_5 : decode cX5_base 5 = .ok (.ifCond .ne 5, 3) := by decide +kernel
theorem dX5_base_8 : decode cX5_base 8 = .ok (.iconst (-1), 1) := by decide +kernel
theorem dX5_base_9 : decode cX5_base 9 = .ok (.ireturn, 1) := by decide +kernel
theorem dX5_base_10 : decode cX5_base 10 = .ok (.iload_n 2, 1) := by decide +kernel
theorem dX5_base_11 : decode cX5_base 11 = .ok (.sipush (-2000), 3) := by decide +kernel
theorem dX5_base_14 : decode cX5_base 14 = .ok (.sipush 2000, 3) := by decide +kernel
theorem dX5_base_17 : decode cX5_base 17 = .ok (.invokestatic 75, 3) := by decide +kernel
theorem dX5_base_20 : decode cX5_base 20 = .ok (.ifCond .ne 6, 3) := by decide +kernel
theorem dX5_base_23 : decode cX5_base 23 = .ok (.bipush (-2), 2) := by decide +kernel
theorem dX5_base_25 : decode cX5_base 25 = .ok (.ireturn, 1) := by decide +kernel
theorem dX5_base_26 : decode cX5_base 26 = .ok (.aload_n 0, 1) := by decide +kernel
theorem dX5_base_27 : decode cX5_base 27 = .ok (.getfield 33, 3) := by decide +kernel
theorem dX5_base_30 : decode cX5_base 30 = .ok (.iload_n 1, 1) := by decide +kernel
theorem dX5_base_31 : decode cX5_base 31 = .ok (.iload_n 2, 1) := by decide +kernel
theorem dX5_base_32 : decode cX5_base 32 = .ok (.iastore, 1) := by decide +kernel
theorem dX5_base_33 : decode cX5_base 33 = .ok (.iconst 1, 1) := by decide +kernel
theorem dX5_base_34 : decode cX5_base 34 = .ok (.ireturn, 1) := by decide +kernel
set_option maxRecDepth 20000 in
theorem ggX5_set_X5_isPlace : GoodIn wsX5_set wsX5_isPlace := goodIn_r _ [8, 9, 10, 11, 7, 12, 20, 21, 22, 23, 24, 25, 26, 27, 28, 29, 30, 31, 32, 33, 34, 35, 36, 37, 38, 39, 40, 41, 42, 43] (by decide +kernel) (by decide +kernel)
set_option maxRecDepth 20000 in
theorem gX5_set_X5_isPlace : GoodIn wsX5_set (wsV RX5 85 RX5 yX5_isPlace wsX5_isPlace) := goodIn_app (goodIn_of _ (by decide +kernel)) ggX5_set_X5_isPlace
set_option maxRecDepth 20000 in
theorem ggX5_set_X5_in : GoodIn wsX5_set wsX5_in := goodIn_r _ [12] (by decide +kernel) (by decide +kernel)
set_option maxRecDepth 20000 in
theorem gX5_set_X5_in : GoodIn wsX5_set (va_wsS RX5 75 yX5_in wsX5_in) := goodIn_app (goodIn_of _ (by decide +kernel)) ggX5_set_X5_in
set_option maxRecDepth 20000 in
theorem ggX5_set_X5_areLawful : GoodIn wsX5_set wsX5_areLawful := goodIn_r _ [16, 9, 1, 17, 18, 7, 19, 20, 21, 22, 23, 24, 25, 26, 27, 28, 29, 30, 31, 32, 33, 34, 35, 36, 37, 38, 39, 40, 41, 42, 43] (by decide +kernel) (by decide +kernel)
set_option maxRecDepth 20000 in
theorem gX5_set_X5_areLawful : GoodIn wsX5_set (wsV RX5 102 RX5 yX5_areLawful wsX5_areLawful) := goodIn_app (goodIn_of _ (by decide +kernel)) ggX5_set_X5_areLawful
theorem dX5_set_0 : decode cX5_set 0 = .ok (.aload_n 0, 1) := by decide +kernel
theorem dX5_set_1 : decode cX5_set 1 = .ok (.iload_n 1, 1) := by decide +kernel
theorem dX5_set_2 : decode cX5_set 2 = .ok (.invokevirtual 85, 3) := by decide +kernel
theorem dX5_set_5 : decode cX5_set 5 = .ok (.ifCond .ne 5, 3) := by decide +kernel
theorem dX5_set_8 : decode cX5_set 8 = .ok (.iconst (-1), 1) := by decide +kernel
theorem dX5_set_9 : decode cX5_set 9 = .ok (.ireturn, 1) := by decide +kernel
theorem dX5_set_10 : decode cX5_set 10 = .ok (.iload_n 2, 1) := by decide +kernel
theorem dX5_set_11 : decode cX5_set 11 = .ok (.bipush (-10), 2) := by decide +kernel
theorem dX5_set_13 : decode cX5_set 13 = .ok (.bipush 10, 2) := by decide +kernel
theorem dX5_set_15 : decode cX5_set 15 = .ok (.invokestatic 75, 3) := by decide +kernel
theorem dX5_set_18 : decode cX5_set 18 = .ok (.ifCond .ne 6, 3) := by decide +kernel
theorem dX5_set_21 : decode cX5_set 21 = .ok (.bipush (-2), 2) := by decide +kernel
theorem dX5_set_23 : decode cX5_set 23 = .ok (.ireturn, 1) := by decide +kernel
theorem dX5_set_24 : decode cX5_set 24 = .ok (.aload_n 0, 1) := by decide +kernel
theorem dX5_set_25 : decode cX5_set 25 = .ok (.getfield 36, 3) := by decide +kernel
theorem dX5_set_28 : decode cX5_set 28 = .ok (.iload_n 1, 1) := by decide +kernel
theorem dX5_set_29 : decode cX5_set 29 = .ok (.iaload, 1) := by decide +kernel
theorem dX5_set_30 : decode cX5_set 30 = .ok (.istore_n 3, 1) := by decide +kernel
theorem dX5_set_31 : decode cX5_set 31 = .ok (.aload_n 0, 1) := by decide +kernel
theorem dX5_set_32 : decode cX5_set 32 = .ok (.getfield 36, 3) := by decide +kernel
theorem dX5_set_35 : decode cX5_set 35 = .ok (.iload_n 1, 1) := by decide +kernel
theorem dX5_set_36 : decode cX5_set 36 = .ok (.iload_n 2, 1) := by decide +kernel
theorem dX5_set_37 : decode cX5_set 37 = .ok (.iastore, 1) := by decide +kernel
theorem dX5_set_38 : decode cX5_set 38 = .ok (.aload_n 0, 1) := by decide +kernel
theorem dX5_set_39 : decode cX5_set 39 = .ok (.aload_n 0, 1) := by decide +kernel
theorem dX5_set_40 : decode cX5_set 40 = .ok (.getfield 39, 3) := by decide +kernel
theorem dX5_set_43 : decode cX5_set 43 = .ok (.aload_n 0, 1) := by decide +kernel
theorem dX5_set_44 : decode cX5_set 44 = .ok (.getfield 42, 3) := by decide +kernel
theorem dX5_set_47 : decode cX5_set 47 = .ok (.invokevirtual 102, 3) := by decide +kernel
theorem dX5_set_50 : decode cX5_set 50 = .ok (.ifCond .ne 13, 3) := by decide +kernel
theorem dX5_set_53 : decode cX5_set 53 = .ok (.aload_n 0, 1) := by decide +kernel
theorem dX5_set_54 : decode cX5_set 54 = .ok (.getfield 36, 3) := by decide +kernel
theorem dX5_set_57 : decode cX5_set 57 = .ok (.iload_n 1, 1) := by decide +kernel
theorem dX5_set_58 : decode cX5_set 58 = .ok (.iload_n 3, 1) := by decide +kernel
theorem dX5_set_59 : decode cX5_set 59 = .ok (.iastore, 1) := by decide +kernel
theorem dX5_set_60 : decode cX5_set 60 = .ok (.bipush (-5), 2) := by decide +kernel
theorem dX5_set_62 : decode cX5_set 62 = .ok (.ireturn, 1) := by decide +kernel
theorem dX5_set_63 : decode cX5_set 63 = .ok (.iconst 1, 1) := by decide +kernel
theorem dX5_set_64 : decode cX5_set 64 = .ok (.ireturn, 1) := by decide +kernel
theorem dX5_error_0 : decode cX5_error 0 = .ok (.iload_n 1, 1) := by decide +kernel
theorem dX5_error_1 : decode cX5_error 1 = .ok (.ifCond .le 14, 3) := by decide +kernel
theorem dX5_error_4 : decode cX5_error 4 = .ok (.aload_n 0, 1) := by decide +kernel
theorem dX5_error_5 : decode cX5_error 5 = .ok (.getfield 36, 3) := by decide +kernel
theorem dX5_error_8 : decode cX5_error 8 = .ok (.iload_n 1, 1) := by decide +kernel
theorem dX5_error_9 : decode cX5_error 9 = .ok (.iconst 1, 1) := by decide +kernel
theorem dX5_error_10 : decode cX5_error 10 = .ok (.isub, 1) := by decide +kernel
theorem dX5_error_11 : decode cX5_error 11 = .ok (.iaload, 1) := by decide +kernel
theorem dX5_error_12 : decode cX5_error 12 = .ok (.goto 4, 3) := by decide +kernel
theorem dX5_error_15 : decode cX5_error 15 = .ok (.iconst 0, 1) := by decide +kernel
theorem dX5_error_16 : decode cX5_error 16 = .ok (.istore_n 2, 1) := by decide +kernel
theorem dX5_error_17 : decode cX5_error 17 = .ok (.iload_n 1, 1) := by decide +kernel
theorem dX5_error_18 : decode cX5_error 18 = .ok (.iconst 1, 1) := by decide +kernel
theorem dX5_error_19 : decode cX5_error 19 = .ok (.iadd, 1) := by decide +kernel
theorem dX5_error_20 : decode cX5_error 20 = .ok (.aload_n 0, 1) := by decide +kernel
theorem dX5_error_21 : decode cX5_error 21 = .ok (.getfield 7, 3) := by decide +kernel
theorem dX5_error_24 : decode cX5_error 24 = .ok (.if_icmp .ge 14, 3) := by decide +kernel
theorem dX5_error_27 : decode cX5_error 27 = .ok (.aload_n 0, 1) := by decide +kernel
theorem dX5_error_28 : decode cX5_error 28 = .ok (.getfield 36, 3) := by decide +kernel
theorem dX5_error_31 : decode cX5_error 31 = .ok (.iload_n 1, 1) := by decide +kernel
theorem dX5_error_32 : decode cX5_error 32 = .ok (.iconst 1, 1) := by decide +kernel
theorem dX5_error_33 : decode cX5_error 33 = .ok (.iadd, 1) := by decide +kernel
theorem dX5_error_34 : decode cX5_error 34 = .ok (.iaload, 1) := by decide +kernel
theorem dX5_error_35 : decode cX5_error 35 = .ok (.goto 4, 3) := by decide +kernel
theorem dX5_error_38 : decode cX5_error 38 = .ok (.iconst 0, 1) := by decide +kernel
theorem dX5_error_39 : decode cX5_error 39 = .ok (.istore_n 3, 1) := by decide +kernel
theorem dX5_error_40 : decode cX5_error 40 = .ok (.aload_n 0, 1) := by decide +kernel
theorem dX5_error_41 : decode cX5_error 41 = .ok (.getfield 33, 3) := by decide +kernel
theorem dX5_error_44 : decode cX5_error 44 = .ok (.iload_n 1, 1) := by decide +kernel
theorem dX5_error_45 : decode cX5_error 45 = .ok (.iaload, 1) := by decide +kernel
theorem dX5_error_46 : decode cX5_error 46 = .ok (.aload_n 0, 1) := by decide +kernel
theorem dX5_error_47 : decode cX5_error 47 = .ok (.getfield 45, 3) := by decide +kernel
theorem dX5_error_50 : decode cX5_error 50 = .ok (.aload_n 0, 1) := by decide +kernel
theorem dX5_error_51 : decode cX5_error 51 = .ok (.getfield 36, 3) := by decide +kernel
theorem dX5_error_54 : decode cX5_error 54 = .ok (.iload_n 1, 1) := by decide +kernel
theorem dX5_error_55 : decode cX5_error 55 = .ok (.iaload, 1) := by decide +kernel
theorem dX5_error_56 : decode cX5_error 56 = .ok (.imul, 1) := by decide +kernel
theorem dX5_error_57 : decode cX5_error 57 = .ok (.iadd, 1) := by decide +kernel
theorem dX5_error_58 : decode cX5_error 58 = .ok (.aload_n 0, 1) := by decide +kernel
theorem dX5_error_59 : decode cX5_error 59 = .ok (.getfield 106, 3) := by decide +kernel
theorem dX5_error_62 : decode cX5_error 62 = .ok (.iload_n 2, 1) := by decide +kernel
theorem dX5_error_63 : decode cX5_error 63 = .ok (.iload_n 3, 1) := by decide +kernel
theorem dX5_error_64 : decode cX5_error 64 = .ok (.iadd, 1) := by decide +kernel
theorem dX5_error_65 : decode cX5_error 65 = .ok (.imul, 1) := by decide +kernel
theorem dX5_error_66 : decode cX5_error 66 = .ok (.iadd, 1) := by decide +kernel
theorem dX5_error_67 : decode cX5_error 67 = .ok (.ireturn, 1) := by decide +kernel
set_option maxRecDepth 20000 in
theorem ggX5_about_X5_isPlace : GoodIn wsX5_about wsX5_isPlace := goodIn_r _ [9, 10, 11, 12, 8, 13, 20, 21, 22, 23, 24, 25, 26, 27, 28, 29, 30, 31, 32, 33, 34, 35, 36, 37, 38, 39, 40, 41, 42, 43] (by decide +kernel) (by decide +kernel)
set_option maxRecDepth 20000 in
theorem gX5_about_X5_isPlace : GoodIn wsX5_about (wsV RX5 85 RX5 yX5_isPlace wsX5_isPlace) := goodIn_app (goodIn_of _ (by decide +kernel)) ggX5_about_X5_isPlace
set_option maxRecDepth 20000 in
theorem ggX5_about_X5_error : GoodIn wsX5_about wsX5_error := goodIn_r _ [17, 2, 10, 3, 18, 19, 20, 21, 22, 23, 24, 25, 26, 27, 28, 29, 30, 31, 32, 33, 34, 35, 36, 37, 38, 39, 40, 41, 42, 43] (by decide +kernel) (by decide +kernel)
set_option maxRecDepth 20000 in
theorem gX5_about_X5_error : GoodIn wsX5_about (wsV RX5 109 RX5 yX5_error wsX5_error) := goodIn_app (goodIn_of _ (by decide +kernel)) ggX5_about_X5_error
theorem dX5_about_0 : decode cX5_about 0 = .ok (.aload_n 0, 1) := by decide +kernel
theorem dX5_about_1 : decode cX5_about 1 = .ok (.iload_n 1, 1) := by decide +kernel
theorem dX5_about_2 : decode cX5_about 2 = .ok (.invokevirtual 85, 3) := by decide +kernel
theorem dX5_about_5 : decode cX5_about 5 = .ok (.ifCond .ne 6, 3) := by decide +kernel
theorem dX5_about_8 : decode cX5_about 8 = .ok (.ldc 89, 2) := by decide +kernel
theorem dX5_about_10 : decode cX5_about 10 = .ok (.ireturn, 1) := by decide +kernel
theorem dX5_about_11 : decode cX5_about 11 = .ok (.iload_n 2, 1) := by decide +kernel
theorem dX5_about_12 : decode cX5_about 12 = .ok (.ifCond .ne 12, 3) := by decide +kernel
theorem dX5_about_15 : decode cX5_about 15 = .ok (.aload_n 0, 1) := by decide +kernel
theorem dX5_about_16 : decode cX5_about 16 = .ok (.getfield 36, 3) := by decide +kernel
theorem dX5_about_19 : decode cX5_about 19 = .ok (.iload_n 1, 1) := by decide +kernel
theorem dX5_about_20 : decode cX5_about 20 = .ok (.iaload, 1) := by decide +kernel
theorem dX5_about_21 : decode cX5_about 21 = .ok (.goto 32, 3) := by decide +kernel
theorem dX5_about_24 : decode cX5_about 24 = .ok (.iload_n 2, 1) := by decide +kernel
theorem dX5_about_25 : decode cX5_about 25 = .ok (.iconst 1, 1) := by decide +kernel
theorem dX5_about_26 : decode cX5_about 26 = .ok (.if_icmp .ne 12, 3) := by decide +kernel
theorem dX5_about_29 : decode cX5_about 29 = .ok (.aload_n 0, 1) := by decide +kernel
theorem dX5_about_30 : decode cX5_about 30 = .ok (.getfield 33, 3) := by decide +kernel
theorem dX5_about_33 : decode cX5_about 33 = .ok (.iload_n 1, 1) := by decide +kernel
theorem dX5_about_34 : decode cX5_about 34 = .ok (.iaload, 1) := by decide +kernel
theorem dX5_about_35 : decode cX5_about 35 = .ok (.goto 18, 3) := by decide +kernel
theorem dX5_about_38 : decode cX5_about 38 = .ok (.iload_n 2, 1) := by decide +kernel
theorem dX5_about_39 : decode cX5_about 39 = .ok (.iconst 2, 1) := by decide +kernel
theorem dX5_about_40 : decode cX5_about 40 = .ok (.if_icmp .ne 11, 3) := by decide +kernel
theorem dX5_about_43 : decode cX5_about 43 = .ok (.aload_n 0, 1) := by decide +kernel
theorem dX5_about_44 : decode cX5_about 44 = .ok (.iload_n 1, 1) := by decide +kernel
theorem dX5_about_45 : decode cX5_about 45 = .ok (.invokevirtual 109, 3) := by decide +kernel
theorem dX5_about_48 : decode cX5_about 48 = .ok (.goto 5, 3) := by decide +kernel
theorem dX5_about_51 : decode cX5_about 51 = .ok (.ldc 90, 2) := by decide +kernel
theorem dX5_about_53 : decode cX5_about 53 = .ok (.ireturn, 1) := by decide +kernel
theorem dX5_with_0 : decode cX5_with 0 = .ok (.iload_n 0, 1) := by decide +kernel
theorem dX5_with_1 : decode cX5_with 1 = .ok (.ifCond .ne 9, 3) := by decide +kernel
theorem dX5_with_4 : decode cX5_with 4 = .ok (.iload_n 1, 1) := by decide +kernel
theorem dX5_with_5 : decode cX5_with 5 = .ok (.iload_n 2, 1) := by decide +kernel
theorem dX5_with_6 : decode cX5_with 6 = .ok (.iadd, 1) := by decide +kernel
theorem dX5_with_7 : decode cX5_with 7 = .ok (.goto 13, 3) := by decide +kernel
theorem dX5_with_10 : decode cX5_with 10 = .ok (.iload_n 1, 1) := by decide +kernel
theorem dX5_with_11 : decode cX5_with 11 = .ok (.iload_n 2, 1) := by decide +kernel
theorem dX5_with_12 : decode cX5_with 12 = .ok (.if_icmp .le 7, 3) := by decide +kernel
theorem dX5_with_15 : decode cX5_with 15 = .ok (.iload_n 1, 1) := by decide +kernel
theorem dX5_with_16 : decode cX5_with 16 = .ok (.goto 4, 3) := by decide +kernel
theorem dX5_with_19 : decode cX5_with 19 = .ok (.iload_n 2, 1) := by decide +kernel
theorem dX5_with_20 : decode cX5_with 20 = .ok (.ireturn, 1) := by decide +kernel
set_option maxRecDepth 20000 in
theorem ggX5_unevenOf_X5_error : GoodIn wsX5_unevenOf wsX5_error := goodIn_r _ [6, 7, 1, 8, 9, 10, 17, 18, 19, 20, 21, 22, 23, 24, 25, 26, 27, 28, 29, 30, 31, 32, 33, 34, 35, 36, 37, 38, 39, 40] (by decide +kernel) (by decide +kernel)
set_option maxRecDepth 20000 in
theorem gX5_unevenOf_X5_error : GoodIn wsX5_unevenOf (wsV RX5 109 RX5 yX5_error wsX5_error) := goodIn_app (goodIn_of _ (by decide +kernel)) ggX5_unevenOf_X5_error
set_option maxRecDepth 20000 in
theorem ggX5_unevenOf_X5_size : GoodIn wsX5_unevenOf wsX5_size := goodIn_r _ [13] (by decide +kernel) (by decide +kernel)
set_option maxRecDepth 20000 in
theorem gX5_unevenOf_X5_size : GoodIn wsX5_unevenOf (va_wsS RX5 99 yX5_size wsX5_size) := goodIn_app (goodIn_of _ (by decide +kernel)) ggX5_unevenOf_X5_size
set_option maxRecDepth 20000 in
theorem ggX5_unevenOf_X5_with : GoodIn wsX5_unevenOf wsX5_with := goodIn_r _ [16] (by decide +kernel) (by decide +kernel)
set_option maxRecDepth 20000 in
theorem gX5_unevenOf_X5_with : GoodIn wsX5_unevenOf (va_wsS RX5 112 yX5_with wsX5_with) := goodIn_app (goodIn_of _ (by decide +kernel)) ggX5_unevenOf_X5_with
theorem dX5_unevenOf_0 : decode cX5_unevenOf 0 = .ok (.iconst 0, 1) := by decide +kernel
theorem dX5_unevenOf_1 : decode cX5_unevenOf 1 = .ok (.istore_n 2, 1) := by decide +kernel
theorem dX5_unevenOf_2 : decode cX5_unevenOf 2 = .ok (.iconst 0, 1) := by decide +kernel
theorem dX5_unevenOf_3 : decode cX5_unevenOf 3 = .ok (.istore_n 3, 1) := by decide +kernel
theorem dX5_unevenOf_4 : decode cX5_unevenOf 4 = .ok (.iload_n 3, 1) := by decide +kernel
theorem dX5_unevenOf_5 : decode cX5_unevenOf 5 = .ok (.aload_n 0, 1) := by decide +kernel
theorem dX5_unevenOf_6 : decode cX5_unevenOf 6 = .ok (.getfield 7, 3) := by decide +kernel
theorem dX5_unevenOf_9 : decode cX5_unevenOf 9 = .ok (.if_icmp .ge 23, 3) := by decide +kernel
theorem dX5_unevenOf_12 : decode cX5_unevenOf 12 = .ok (.iload_n 1, 1) := by decide +kernel
theorem dX5_unevenOf_13 : decode cX5_unevenOf 13 = .ok (.iload_n 2, 1) := by decide +kernel
theorem dX5_unevenOf_14 : decode cX5_unevenOf 14 = .ok (.aload_n 0, 1) := by decide +kernel
theorem dX5_unevenOf_15 : decode cX5_unevenOf 15 = .ok (.iload_n 3, 1) := by decide +kernel
theorem dX5_unevenOf_16 : decode cX5_unevenOf 16 = .ok (.invokevirtual 109, 3) := by decide +kernel
theorem dX5_unevenOf_19 : decode cX5_unevenOf 19 = .ok (.invokestatic 99, 3) := by decide +kernel
theorem dX5_unevenOf_22 : decode cX5_unevenOf 22 = .ok (.invokestatic 112, 3) := by decide +kernel
theorem dX5_unevenOf_25 : decode cX5_unevenOf 25 = .ok (.istore_n 2, 1) := by decide +kernel
theorem dX5_unevenOf_26 : decode cX5_unevenOf 26 = .ok (.iinc 3 1, 3) := by decide +kernel
theorem dX5_unevenOf_29 : decode cX5_unevenOf 29 = .ok (.goto (-25), 3) := by decide +kernel
theorem dX5_unevenOf_32 : decode cX5_unevenOf 32 = .ok (.iload_n 2, 1) := by decide +kernel
theorem dX5_unevenOf_33 : decode cX5_unevenOf 33 = .ok (.ireturn, 1) := by decide +kernel
set_option maxRecDepth 20000 in
theorem ggX5_uneven_X5_in : GoodIn wsX5_uneven wsX5_in := goodIn_r _ [4] (by decide +kernel) (by decide +kernel)
set_option maxRecDepth 20000 in
theorem gX5_uneven_X5_in : GoodIn wsX5_uneven (va_wsS RX5 75 yX5_in wsX5_in) := goodIn_app (goodIn_of _ (by decide +kernel)) ggX5_uneven_X5_in
set_option maxRecDepth 20000 in
theorem ggX5_uneven_X5_unevenOf : GoodIn wsX5_uneven wsX5_unevenOf := goodIn_r _ [8, 9, 10, 11, 12, 3, 13, 14, 15, 16, 17, 18, 19, 20, 21, 22, 23, 24, 25, 26, 27, 28, 29, 30, 31, 32, 33, 34, 35, 36, 37, 38, 39, 40, 41, 42, 43, 44, 45, 46, 47] (by decide +kernel) (by decide +kernel)
set_option maxRecDepth 20000 in
theorem gX5_uneven_X5_unevenOf : GoodIn wsX5_uneven (wsV RX5 116 RX5 yX5_unevenOf wsX5_unevenOf) := goodIn_app (goodIn_of _ (by decide +kernel)) ggX5_uneven_X5_unevenOf
theorem dX5_uneven_0 : decode cX5_uneven 0 = .ok (.iload_n 1, 1) := by decide +kernel
theorem dX5_uneven_1 : decode cX5_uneven 1 = .ok (.iconst 0, 1) := by decide +kernel
theorem dX5_uneven_2 : decode cX5_uneven 2 = .ok (.iconst 1, 1) := by decide +kernel
theorem dX5_uneven_3 : decode cX5_uneven 3 = .ok (.invokestatic 75, 3) := by decide +kernel
theorem dX5_uneven_6 : decode cX5_uneven 6 = .ok (.ifCond .eq 11, 3) := by decide +kernel
theorem dX5_uneven_9 : decode cX5_uneven 9 = .ok (.aload_n 0, 1) := by decide +kernel
theorem dX5_uneven_10 : decode cX5_uneven 10 = .ok (.iload_n 1, 1) := by decide +kernel
theorem dX5_uneven_11 : decode cX5_uneven 11 = .ok (.invokevirtual 116, 3) := by decide +kernel
theorem dX5_uneven_14 : decode cX5_uneven 14 = .ok (.goto 5, 3) := by decide +kernel
theorem dX5_uneven_17 : decode cX5_uneven 17 = .ok (.bipush (-2), 2) := by decide +kernel
theorem dX5_uneven_19 : decode cX5_uneven 19 = .ok (.ireturn, 1) := by decide +kernel
set_option maxRecDepth 20000 in
theorem ggX5_goes_X5_size : GoodIn wsX5_goes wsX5_size := goodIn_r _ [6] (by decide +kernel) (by decide +kernel)
set_option maxRecDepth 20000 in
theorem gX5_goes_X5_size : GoodIn wsX5_goes (va_wsS RX5 99 yX5_size wsX5_size) := goodIn_app (goodIn_of _ (by decide +kernel)) ggX5_goes_X5_size
theorem dX5_goes_0 : decode cX5_goes 0 = .ok (.iload_n 3, 1) := by decide +kernel
theorem dX5_goes_1 : decode cX5_goes 1 = .ok (.iload 4, 2) := by decide +kernel
theorem dX5_goes_3 : decode cX5_goes 3 = .ok (.isub, 1) := by decide +kernel
theorem dX5_goes_4 : decode cX5_goes 4 = .ok (.invokestatic 99, 3) := by decide +kernel
theorem dX5_goes_7 : decode cX5_goes 7 = .ok (.aload_n 0, 1) := by decide +kernel
theorem dX5_goes_8 : decode cX5_goes 8 = .ok (.getfield 39, 3) := by decide +kernel
theorem dX5_goes_11 : decode cX5_goes 11 = .ok (.if_icmp .gt 29, 3) := by decide +kernel
theorem dX5_goes_14 : decode cX5_goes 14 = .ok (.iload_n 1, 1) := by decide +kernel
theorem dX5_goes_15 : decode cX5_goes 15 = .ok (.ifCond .eq 21, 3) := by decide +kernel
theorem dX5_goes_18 : decode cX5_goes 18 = .ok (.iconst 2, 1) := by decide +kernel
theorem dX5_goes_19 : decode cX5_goes 19 = .ok (.iload_n 3, 1) := by decide +kernel
theorem dX5_goes_20 : decode cX5_goes 20 = .ok (.imul, 1) := by decide +kernel
theorem dX5_goes_21 : decode cX5_goes 21 = .ok (.iload_n 2, 1) := by decide +kernel
theorem dX5_goes_22 : decode cX5_goes 22 = .ok (.isub, 1) := by decide +kernel
theorem dX5_goes_23 : decode cX5_goes 23 = .ok (.iload 4, 2) := by decide +kernel
theorem dX5_goes_25 : decode cX5_goes 25 = .ok (.isub, 1) := by decide +kernel
theorem dX5_goes_26 : decode cX5_goes 26 = .ok (.invokestatic 99, 3) := by decide +kernel
theorem dX5_goes_29 : decode cX5_goes 29 = .ok (.aload_n 0, 1) := by decide +kernel
theorem dX5_goes_30 : decode cX5_goes 30 = .ok (.getfield 42, 3) := by decide +kernel
theorem dX5_goes_33 : decode cX5_goes 33 = .ok (.if_icmp .gt 7, 3) := by decide +kernel
theorem dX5_goes_36 : decode cX5_goes 36 = .ok (.iconst 1, 1) := by decide +kernel
theorem dX5_goes_37 : decode cX5_goes 37 = .ok (.goto 4, 3) := by decide +kernel
theorem dX5_goes_40 : decode cX5_goes 40 = .ok (.iconst 0, 1) := by decide +kernel
theorem dX5_goes_41 : decode cX5_goes 41 = .ok (.ireturn, 1) := by decide +kernel
set_option maxRecDepth 20000 in
theorem ggX5_layLeast_X5_size : GoodIn wsX5_layLeast wsX5_size := goodIn_r _ [9] (by decide +kernel) (by decide +kernel)
set_option maxRecDepth 20000 in
theorem gX5_layLeast_X5_size : GoodIn wsX5_layLeast (va_wsS RX5 99 yX5_size wsX5_size) := goodIn_app (goodIn_of _ (by decide +kernel)) ggX5_layLeast_X5_size
set_option maxRecDepth 20000 in
theorem ggX5_layLeast_X5_goes : GoodIn wsX5_layLeast wsX5_goes := goodIn_r _ [13, 14, 15, 6, 7, 8, 9, 19, 20, 21, 22, 23, 24, 25, 26, 27, 28, 29, 30, 31, 32, 33, 34, 35, 36, 37, 38, 39, 40, 41, 42] (by decide +kernel) (by decide +kernel)
set_option maxRecDepth 20000 in
theorem gX5_layLeast_X5_goes : GoodIn wsX5_layLeast (wsV RX5 119 RX5 yX5_goes wsX5_goes) := goodIn_app (goodIn_of _ (by decide +kernel)) ggX5_layLeast_X5_goes
set_option maxRecDepth 20000 in
theorem ggX5_layLeast_X5_with : GoodIn wsX5_layLeast wsX5_with := goodIn_r _ [18] (by decide +kernel) (by decide +kernel)
set_option maxRecDepth 20000 in
theorem gX5_layLeast_X5_with : GoodIn wsX5_layLeast (va_wsS RX5 112 yX5_with wsX5_with) := goodIn_app (goodIn_of _ (by decide +kernel)) ggX5_layLeast_X5_with
theorem dX5_layLeast_0 : decode cX5_layLeast 0 = .ok (.aload_n 0, 1) := by decide +kernel
theorem dX5_layLeast_1 : decode cX5_layLeast 1 = .ok (.getfield 7, 3) := by decide +kernel
theorem dX5_layLeast_4 : decode cX5_layLeast 4 = .ok (.iconst 1, 1) := by decide +kernel
theorem dX5_layLeast_5 : decode cX5_layLeast 5 = .ok (.isub, 1) := by decide +kernel
theorem dX5_layLeast_6 : decode cX5_layLeast 6 = .ok (.istore_n 2, 1) := by decide +kernel
theorem dX5_layLeast_7 : decode cX5_layLeast 7 = .ok (.iload_n 2, 1) := by decide +kernel
theorem dX5_layLeast_8 : decode cX5_layLeast 8 = .ok (.ifCond .lt 239, 3) := by decide +kernel
theorem dX5_layLeast_11 : decode cX5_layLeast 11 = .ok (.bipush (-10), 2) := by decide +kernel
theorem dX5_layLeast_13 : decode cX5_layLeast 13 = .ok (.istore_n 3, 1) := by decide +kernel
theorem dX5_layLeast_14 : decode cX5_layLeast 14 = .ok (.iload_n 3, 1) := by decide +kernel
theorem dX5_layLeast_15 : decode cX5_layLeast 15 = .ok (.bipush 10, 2) := by decide +kernel
theorem dX5_layLeast_17 : decode cX5_layLeast 17 = .ok (.if_icmp .gt 224, 3) := by decide +kernel
theorem dX5_layLeast_20 : decode cX5_layLeast 20 = .ok (.bipush (-10), 2) := by decide +kernel
theorem dX5_layLeast_22 : decode cX5_layLeast 22 = .ok (.istore 4, 2) := by decide +kernel
theorem dX5_layLeast_24 : decode cX5_layLeast 24 = .ok (.iload 4, 2) := by decide +kernel
theorem dX5_layLeast_26 : decode cX5_layLeast 26 = .ok (.bipush 10, 2) := by decide +kernel
theorem dX5_layLeast_28 : decode cX5_layLeast 28 = .ok (.if_icmp .gt 207, 3) := by decide +kernel
theorem dX5_layLeast_31 : decode cX5_layLeast 31 = .ok (.aload_n 0, 1) := by decide +kernel
theorem dX5_layLeast_32 : decode cX5_layLeast 32 = .ok (.getfield 33, 3) := by decide +kernel
theorem dX5_layLeast_35 : decode cX5_layLeast 35 = .ok (.iload_n 2, 1) := by decide +kernel
theorem dX5_layLeast_36 : decode cX5_layLeast 36 = .ok (.iaload, 1) := by decide +kernel
theorem dX5_layLeast_37 : decode cX5_layLeast 37 = .ok (.aload_n 0, 1) := by decide +kernel
theorem dX5_layLeast_38 : decode cX5_layLeast 38 = .ok (.getfield 45, 3) := by decide +kernel
theorem dX5_layLeast_41 : decode cX5_layLeast 41 = .ok (.iload 4, 2) := by decide +kernel
theorem dX5_layLeast_43 : decode cX5_layLeast 43 = .ok (.imul, 1) := by decide +kernel
theorem dX5_layLeast_44 : decode cX5_layLeast 44 = .ok (.iadd, 1) := by decide +kernel
theorem dX5_layLeast_45 : decode cX5_layLeast 45 = .ok (.aload_n 0, 1) := by decide +kernel
theorem dX5_layLeast_46 : decode cX5_layLeast 46 = .ok (.getfield 106, 3) := by decide +kernel
theorem dX5_layLeast_49 : decode cX5_layLeast 49 = .ok (.iload_n 2, 1) := by decide +kernel
theorem dX5_layLeast_50 : decode cX5_layLeast 50 = .ok (.ifCond .ne 7, 3) := by decide +kernel
theorem dX5_layLeast_53 : decode cX5_layLeast 53 = .ok (.iconst 0, 1) := by decide +kernel
theorem dX5_layLeast_54 : decode cX5_layLeast 54 = .ok (.goto 4, 3) := by decide +kernel
theorem dX5_layLeast_57 : decode cX5_layLeast 57 = .ok (.iload_n 3, 1) := by decide +kernel
theorem dX5_layLeast_58 : decode cX5_layLeast 58 = .ok (.imul, 1) := by decide +kernel
theorem dX5_layLeast_59 : decode cX5_layLeast 59 = .ok (.iadd, 1) := by decide +kernel
theorem dX5_layLeast_60 : decode cX5_layLeast 60 = .ok (.istore 5, 2) := by decide +kernel
theorem dX5_layLeast_62 : decode cX5_layLeast 62 = .ok (.iload_n 2, 1) := by decide +kernel
theorem dX5_layLeast_63 : decode cX5_layLeast 63 = .ok (.aload_n 0, 1) := by decide +kernel
theorem dX5_layLeast_64 : decode cX5_layLeast 64 = .ok (.getfield 7, 3) := by decide +kernel
theorem dX5_layLeast_67 : decode cX5_layLeast 67 = .ok (.iconst 1, 1) := by decide +kernel
theorem dX5_layLeast_68 : decode cX5_layLeast 68 = .ok (.isub, 1) := by decide +kernel
theorem dX5_layLeast_69 : decode cX5_layLeast 69 = .ok (.if_icmp .ne 11, 3) := by decide +kernel
theorem dX5_layLeast_72 : decode cX5_layLeast 72 = .ok (.iload 5, 2) := by decide +kernel
theorem dX5_layLeast_74 : decode cX5_layLeast 74 = .ok (.invokestatic 99, 3) := by decide +kernel
theorem dX5_layLeast_77 : decode cX5_layLeast 77 = .ok (.goto 4, 3) := by decide +kernel
theorem dX5_layLeast_80 : decode cX5_layLeast 80 = .ok (.iconst (-1), 1) := by decide +kernel
theorem dX5_layLeast_81 : decode cX5_layLeast 81 = .ok (.istore 6, 2) := by decide +kernel
theorem dX5_layLeast_83 : decode cX5_layLeast 83 = .ok (.bipush (-10), 2) := by decide +kernel
theorem dX5_layLeast_85 : decode cX5_layLeast 85 = .ok (.istore 7, 2) := by decide +kernel
theorem dX5_layLeast_87 : decode cX5_layLeast 87 = .ok (.iload 7, 2) := by decide +kernel
theorem dX5_layLeast_89 : decode cX5_layLeast 89 = .ok (.bipush 10, 2) := by decide +kernel
theorem dX5_layLeast_91 : decode cX5_layLeast 91 = .ok (.if_icmp .gt 112, 3) := by decide +kernel
theorem dX5_layLeast_94 : decode cX5_layLeast 94 = .ok (.iload_n 2, 1) := by decide +kernel
theorem dX5_layLeast_95 : decode cX5_layLeast 95 = .ok (.aload_n 0, 1) := by decide +kernel
theorem dX5_layLeast_96 : decode cX5_layLeast 96 = .ok (.getfield 7, 3) := by decide +kernel
theorem dX5_layLeast_99 : decode cX5_layLeast 99 = .ok (.iconst 1, 1) := by decide +kernel
theorem dX5_layLeast_100 : decode cX5_layLeast 100 = .ok (.isub, 1) := by decide +kernel
theorem dX5_layLeast_101 : decode cX5_layLeast 101 = .ok (.if_icmp .ge 102, 3) := by decide +kernel
theorem dX5_layLeast_104 : decode cX5_layLeast 104 = .ok (.aload_n 0, 1) := by decide +kernel
theorem dX5_layLeast_105 : decode cX5_layLeast 105 = .ok (.iload_n 2, 1) := by decide +kernel
theorem dX5_layLeast_106 : decode cX5_layLeast 106 = .ok (.iload_n 3, 1) := by decide +kernel
theorem dX5_layLeast_107 : decode cX5_layLeast 107 = .ok (.iload 4, 2) := by decide +kernel
theorem dX5_layLeast_109 : decode cX5_layLeast 109 = .ok (.iload 7, 2) := by decide +kernel
theorem dX5_layLeast_111 : decode cX5_layLeast 111 = .ok (.invokevirtual 119, 3) := by decide +kernel
theorem dX5_layLeast_114 : decode cX5_layLeast 114 = .ok (.ifCond .eq 33, 3) := by decide +kernel
theorem dX5_layLeast_117 : decode cX5_layLeast 117 = .ok (.aload_n 0, 1) := by decide +kernel
theorem dX5_layLeast_118 : decode cX5_layLeast 118 = .ok (.getfield 60, 3) := by decide +kernel
theorem dX5_layLeast_121 : decode cX5_layLeast 121 = .ok (.sipush 441, 3) := by decide +kernel
theorem dX5_layLeast_124 : decode cX5_layLeast 124 = .ok (.iload_n 2, 1) := by decide +kernel
theorem dX5_layLeast_125 : decode cX5_layLeast 125 = .ok (.iconst 1, 1) := by decide +kernel
theorem dX5_layLeast_126 : decode cX5_layLeast 126 = .ok (.iadd, 1) := by decide +kernel
theorem dX5_layLeast_127 : decode cX5_layLeast 127 = .ok (.imul, 1) := by decide +kernel
theorem dX5_layLeast_128 : decode cX5_layLeast 128 = .ok (.bipush 21, 2) := by decide +kernel
theorem dX5_layLeast_130 : decode cX5_layLeast 130 = .ok (.iload 4, 2) := by decide +kernel
theorem dX5_layLeast_132 : decode cX5_layLeast 132 = .ok (.bipush 10, 2) := by decide +kernel
theorem dX5_layLeast_134 : decode cX5_layLeast 134 = .ok (.iadd, 1) := by decide +kernel
theorem dX5_layLeast_135 : decode cX5_layLeast 135 = .ok (.imul, 1) := by decide +kernel
theorem dX5_layLeast_136 : decode cX5_layLeast 136 = .ok (.iadd, 1) := by decide +kernel
theorem dX5_layLeast_137 : decode cX5_layLeast 137 = .ok (.iload 7, 2) := by decide +kernel
theorem dX5_layLeast_139 : decode cX5_layLeast 139 = .ok (.iadd, 1) := by decide +kernel
theorem dX5_layLeast_140 : decode cX5_layLeast 140 = .ok (.bipush 10, 2) := by decide +kernel
theorem dX5_layLeast_142 : decode cX5_layLeast 142 = .ok (.iadd, 1) := by decide +kernel
theorem dX5_layLeast_143 : decode cX5_layLeast 143 = .ok (.iaload, 1) := by decide +kernel
theorem dX5_layLeast_144 : decode cX5_layLeast 144 = .ok (.goto 4, 3) := by decide +kernel
theorem dX5_layLeast_147 : decode cX5_layLeast 147 = .ok (.iconst (-1), 1) := by decide +kernel
theorem dX5_layLeast_148 : decode cX5_layLeast 148 = .ok (.istore 8, 2) := by decide +kernel
theorem dX5_layLeast_150 : decode cX5_layLeast 150 = .ok (.iload_n 1, 1) := by decide +kernel
theorem dX5_layLeast_151 : decode cX5_layLeast 151 = .ok (.iload 5, 2) := by decide +kernel
theorem dX5_layLeast_153 : decode cX5_layLeast 153 = .ok (.aload_n 0, 1) := by decide +kernel
theorem dX5_layLeast_154 : decode cX5_layLeast 154 = .ok (.getfield 106, 3) := by decide +kernel
theorem dX5_layLeast_157 : decode cX5_layLeast 157 = .ok (.iload 7, 2) := by decide +kernel
theorem dX5_layLeast_159 : decode cX5_layLeast 159 = .ok (.imul, 1) := by decide +kernel
theorem dX5_layLeast_160 : decode cX5_layLeast 160 = .ok (.iadd, 1) := by decide +kernel
theorem dX5_layLeast_161 : decode cX5_layLeast 161 = .ok (.invokestatic 99, 3) := by decide +kernel
theorem dX5_layLeast_164 : decode cX5_layLeast 164 = .ok (.iload 8, 2) := by decide +kernel
theorem dX5_layLeast_166 : decode cX5_layLeast 166 = .ok (.invokestatic 112, 3) := by decide +kernel
theorem dX5_layLeast_169 : decode cX5_layLeast 169 = .ok (.istore 9, 2) := by decide +kernel
theorem dX5_layLeast_171 : decode cX5_layLeast 171 = .ok (.iload 8, 2) := by decide +kernel
theorem dX5_layLeast_173 : decode cX5_layLeast 173 = .ok (.ifCond .lt 20, 3) := by decide +kernel
theorem dX5_layLeast_176 : decode cX5_layLeast 176 = .ok (.iload 6, 2) := by decide +kernel
theorem dX5_layLeast_178 : decode cX5_layLeast 178 = .ok (.ifCond .lt 10, 3) := by decide +kernel
theorem dX5_layLeast_181 : decode cX5_layLeast 181 = .ok (.iload 9, 2) := by decide +kernel
theorem dX5_layLeast_183 : decode cX5_layLeast 183 = .ok (.iload 6, 2) := by decide +kernel
theorem dX5_layLeast_185 : decode cX5_layLeast 185 = .ok (.if_icmp .ge 8, 3) := by decide +kernel
theorem dX5_layLeast_188 : decode cX5_layLeast 188 = .ok (.iload 9, 2) := by decide +kernel
theorem dX5_layLeast_190 : decode cX5_layLeast 190 = .ok (.goto 5, 3) := by decide +kernel
theorem dX5_layLeast_193 : decode cX5_layLeast 193 = .ok (.iload 6, 2) := by decide +kernel
theorem dX5_layLeast_195 : decode cX5_layLeast 195 = .ok (.istore 6, 2) := by decide +kernel
theorem dX5_layLeast_197 : decode cX5_layLeast 197 = .ok (.iinc 7 1, 3) := by decide +kernel
theorem dX5_layLeast_200 : decode cX5_layLeast 200 = .ok (.goto (-113), 3) := by decide +kernel
theorem dX5_layLeast_203 : decode cX5_layLeast 203 = .ok (.aload_n 0, 1) := by decide +kernel
theorem dX5_layLeast_204 : decode cX5_layLeast 204 = .ok (.getfield 60, 3) := by decide +kernel
theorem dX5_layLeast_207 : decode cX5_layLeast 207 = .ok (.sipush 441, 3) := by decide +kernel
theorem dX5_layLeast_210 : decode cX5_layLeast 210 = .ok (.iload_n 2, 1) := by decide +kernel
theorem dX5_layLeast_211 : decode cX5_layLeast 211 = .ok (.imul, 1) := by decide +kernel
theorem dX5_layLeast_212 : decode cX5_layLeast 212 = .ok (.bipush 21, 2) := by decide +kernel
theorem dX5_layLeast_214 : decode cX5_layLeast 214 = .ok (.iload_n 3, 1) := by decide +kernel
theorem dX5_layLeast_215 : decode cX5_layLeast 215 = .ok (.bipush 10, 2) := by decide +kernel
theorem dX5_layLeast_217 : decode cX5_layLeast 217 = .ok (.iadd, 1) := by decide +kernel
theorem dX5_layLeast_218 : decode cX5_layLeast 218 = .ok (.imul, 1) := by decide +kernel
theorem dX5_layLeast_219 : decode cX5_layLeast 219 = .ok (.iadd, 1) := by decide +kernel
theorem dX5_layLeast_220 : decode cX5_layLeast 220 = .ok (.iload 4, 2) := by decide +kernel
theorem dX5_layLeast_222 : decode cX5_layLeast 222 = .ok (.iadd, 1) := by decide +kernel
theorem dX5_layLeast_223 : decode cX5_layLeast 223 = .ok (.bipush 10, 2) := by decide +kernel
theorem dX5_layLeast_225 : decode cX5_layLeast 225 = .ok (.iadd, 1) := by decide +kernel
theorem dX5_layLeast_226 : decode cX5_layLeast 226 = .ok (.iload 6, 2) := by decide +kernel
theorem dX5_layLeast_228 : decode cX5_layLeast 228 = .ok (.iastore, 1) := by decide +kernel
theorem dX5_layLeast_229 : decode cX5_layLeast 229 = .ok (.iinc 4 1, 3) := by decide +kernel
theorem dX5_layLeast_232 : decode cX5_layLeast 232 = .ok (.goto (-208), 3) := by decide +kernel
theorem dX5_layLeast_235 : decode cX5_layLeast 235 = .ok (.iinc 3 1, 3) := by decide +kernel
theorem dX5_layLeast_238 : decode cX5_layLeast 238 = .ok (.goto (-224), 3) := by decide +kernel
theorem dX5_layLeast_241 : decode cX5_layLeast 241 = .ok (.iinc 2 (-1), 3) := by decide +kernel
theorem dX5_layLeast_244 : decode cX5_layLeast 244 = .ok (.goto (-237), 3) := by decide +kernel
theorem dX5_layLeast_247 : decode cX5_layLeast 247 = .ok (.return_, 1) := by decide +kernel
set_option maxRecDepth 20000 in
theorem ggX5_best_X5_in : GoodIn wsX5_best wsX5_in := goodIn_r _ [10] (by decide +kernel) (by decide +kernel)
set_option maxRecDepth 20000 in
theorem gX5_best_X5_in : GoodIn wsX5_best (va_wsS RX5 75 yX5_in wsX5_in) := goodIn_app (goodIn_of _ (by decide +kernel)) ggX5_best_X5_in
set_option maxRecDepth 20000 in
theorem ggX5_best_X5_layLeast : GoodIn wsX5_best wsX5_layLeast := goodIn_r _ [14, 3, 4, 5, 6, 1, 15, 16, 9, 17, 18, 19, 20, 21, 22, 23, 24, 25, 26, 27, 28, 29, 30, 31, 32, 33, 34, 35, 36, 37, 38, 39, 40, 41, 42, 43, 44, 45, 46, 47, 48, 49, 50] (by decide +kernel) (by decide +kernel)
set_option maxRecDepth 20000 in
theorem gX5_best_X5_layLeast : GoodIn wsX5_best (wsV RX5 123 RX5 yX5_layLeast wsX5_layLeast) := goodIn_app (goodIn_of _ (by decide +kernel)) ggX5_best_X5_layLeast
set_option maxRecDepth 20000 in
theorem ggX5_best_X5_goes : GoodIn wsX5_best wsX5_goes := goodIn_r _ [21, 22, 23, 15, 16, 9, 17, 27, 28, 29, 30, 31, 32, 33, 34, 35, 36, 37, 38, 39, 40, 41, 42, 43, 44, 45, 46, 47, 48, 49, 50] (by decide +kernel) (by decide +kernel)
set_option maxRecDepth 20000 in
theorem gX5_best_X5_goes : GoodIn wsX5_best (wsV RX5 119 RX5 yX5_goes wsX5_goes) := goodIn_app (goodIn_of _ (by decide +kernel)) ggX5_best_X5_goes
set_option maxRecDepth 20000 in
theorem ggX5_best_X5_size : GoodIn wsX5_best wsX5_size := goodIn_r _ [17] (by decide +kernel) (by decide +kernel)
set_option maxRecDepth 20000 in
theorem gX5_best_X5_size : GoodIn wsX5_best (va_wsS RX5 99 yX5_size wsX5_size) := goodIn_app (goodIn_of _ (by decide +kernel)) ggX5_best_X5_size
theorem dX5_best_0 : decode cX5_best 0 = .ok (.iload_n 1, 1) := by decide +kernel
theorem dX5_best_1 : decode cX5_best 1 = .ok (.iconst 0, 1) := by decide +kernel
theorem dX5_best_2 : decode cX5_best 2 = .ok (.iconst 1, 1) := by decide +kernel
theorem dX5_best_3 : decode cX5_best 3 = .ok (.invokestatic 75, 3) := by decide +kernel
theorem dX5_best_6 : decode cX5_best 6 = .ok (.ifCond .ne 6, 3) := by decide +kernel
theorem dX5_best_9 : decode cX5_best 9 = .ok (.bipush (-2), 2) := by decide +kernel
theorem dX5_best_11 : decode cX5_best 11 = .ok (.ireturn, 1) := by decide +kernel
theorem dX5_best_12 : decode cX5_best 12 = .ok (.aload_n 0, 1) := by decide +kernel
theorem dX5_best_13 : decode cX5_best 13 = .ok (.iload_n 1, 1) := by decide +kernel
theorem dX5_best_14 : decode cX5_best 14 = .ok (.invokevirtual 123, 3) := by decide +kernel
theorem dX5_best_17 : decode cX5_best 17 = .ok (.iconst (-1), 1) := by decide +kernel
theorem dX5_best_18 : decode cX5_best 18 = .ok (.istore_n 2, 1) := by decide +kernel
theorem dX5_best_19 : decode cX5_best 19 = .ok (.iconst 0, 1) := by decide +kernel
theorem dX5_best_20 : decode cX5_best 20 = .ok (.istore_n 3, 1) := by decide +kernel
theorem dX5_best_21 : decode cX5_best 21 = .ok (.bipush (-10), 2) := by decide +kernel
theorem dX5_best_23 : decode cX5_best 23 = .ok (.istore 4, 2) := by decide +kernel
theorem dX5_best_25 : decode cX5_best 25 = .ok (.iload 4, 2) := by decide +kernel
theorem dX5_best_27 : decode cX5_best 27 = .ok (.bipush 10, 2) := by decide +kernel
theorem dX5_best_29 : decode cX5_best 29 = .ok (.if_icmp .gt 46, 3) := by decide +kernel
theorem dX5_best_32 : decode cX5_best 32 = .ok (.aload_n 0, 1) := by decide +kernel
theorem dX5_best_33 : decode cX5_best 33 = .ok (.getfield 60, 3) := by decide +kernel
theorem dX5_best_36 : decode cX5_best 36 = .ok (.sipush 210, 3) := by decide +kernel
theorem dX5_best_39 : decode cX5_best 39 = .ok (.iload 4, 2) := by decide +kernel
theorem dX5_best_41 : decode cX5_best 41 = .ok (.iadd, 1) := by decide +kernel
theorem dX5_best_42 : decode cX5_best 42 = .ok (.bipush 10, 2) := by decide +kernel
theorem dX5_best_44 : decode cX5_best 44 = .ok (.iadd, 1) := by decide +kernel
theorem dX5_best_45 : decode cX5_best 45 = .ok (.iaload, 1) := by decide +kernel
theorem dX5_best_46 : decode cX5_best 46 = .ok (.istore 5, 2) := by decide +kernel
theorem dX5_best_48 : decode cX5_best 48 = .ok (.iload 5, 2) := by decide +kernel
theorem dX5_best_50 : decode cX5_best 50 = .ok (.ifCond .lt 19, 3) := by decide +kernel
theorem dX5_best_53 : decode cX5_best 53 = .ok (.iload_n 2, 1) := by decide +kernel
theorem dX5_best_54 : decode cX5_best 54 = .ok (.ifCond .lt 9, 3) := by decide +kernel
theorem dX5_best_57 : decode cX5_best 57 = .ok (.iload 5, 2) := by decide +kernel
theorem dX5_best_59 : decode cX5_best 59 = .ok (.iload_n 2, 1) := by decide +kernel
theorem dX5_best_60 : decode cX5_best 60 = .ok (.if_icmp .ge 9, 3) := by decide +kernel
theorem dX5_best_63 : decode cX5_best 63 = .ok (.iload 5, 2) := by decide +kernel
theorem dX5_best_65 : decode cX5_best 65 = .ok (.istore_n 2, 1) := by decide +kernel
theorem dX5_best_66 : decode cX5_best 66 = .ok (.iload 4, 2) := by decide +kernel
theorem dX5_best_68 : decode cX5_best 68 = .ok (.istore_n 3, 1) := by decide +kernel
theorem dX5_best_69 : decode cX5_best 69 = .ok (.iinc 4 1, 3) := by decide +kernel
theorem dX5_best_72 : decode cX5_best 72 = .ok (.goto (-47), 3) := by decide +kernel
theorem dX5_best_75 : decode cX5_best 75 = .ok (.iconst 0, 1) := by decide +kernel
theorem dX5_best_76 : decode cX5_best 76 = .ok (.istore 4, 2) := by decide +kernel
theorem dX5_best_78 : decode cX5_best 78 = .ok (.iload_n 2, 1) := by decide +kernel
theorem dX5_best_79 : decode cX5_best 79 = .ok (.istore 5, 2) := by decide +kernel
theorem dX5_best_81 : decode cX5_best 81 = .ok (.aload_n 0, 1) := by decide +kernel
theorem dX5_best_82 : decode cX5_best 82 = .ok (.getfield 36, 3) := by decide +kernel
theorem dX5_best_85 : decode cX5_best 85 = .ok (.iconst 0, 1) := by decide +kernel
theorem dX5_best_86 : decode cX5_best 86 = .ok (.iload_n 3, 1) := by decide +kernel
theorem dX5_best_87 : decode cX5_best 87 = .ok (.iastore, 1) := by decide +kernel
theorem dX5_best_88 : decode cX5_best 88 = .ok (.iconst 0, 1) := by decide +kernel
theorem dX5_best_89 : decode cX5_best 89 = .ok (.istore 6, 2) := by decide +kernel
theorem dX5_best_91 : decode cX5_best 91 = .ok (.iload 6, 2) := by decide +kernel
theorem dX5_best_93 : decode cX5_best 93 = .ok (.iconst 1, 1) := by decide +kernel
theorem dX5_best_94 : decode cX5_best 94 = .ok (.iadd, 1) := by decide +kernel
theorem dX5_best_95 : decode cX5_best 95 = .ok (.aload_n 0, 1) := by decide +kernel
theorem dX5_best_96 : decode cX5_best 96 = .ok (.getfield 7, 3) := by decide +kernel
theorem dX5_best_99 : decode cX5_best 99 = .ok (.if_icmp .ge 181, 3) := by decide +kernel
theorem dX5_best_102 : decode cX5_best 102 = .ok (.bipush (-11), 2) := by decide +kernel
theorem dX5_best_104 : decode cX5_best 104 = .ok (.istore 7, 2) := by decide +kernel
theorem dX5_best_106 : decode cX5_best 106 = .ok (.iconst 0, 1) := by decide +kernel
theorem dX5_best_107 : decode cX5_best 107 = .ok (.istore 8, 2) := by decide +kernel
theorem dX5_best_109 : decode cX5_best 109 = .ok (.iconst 0, 1) := by decide +kernel
theorem dX5_best_110 : decode cX5_best 110 = .ok (.istore 9, 2) := by decide +kernel
theorem dX5_best_112 : decode cX5_best 112 = .ok (.iload 8, 2) := by decide +kernel
theorem dX5_best_114 : decode cX5_best 114 = .ok (.ifCond .ne 136, 3) := by decide +kernel
theorem dX5_best_117 : decode cX5_best 117 = .ok (.iinc 7 1, 3) := by decide +kernel
theorem dX5_best_120 : decode cX5_best 120 = .ok (.aload_n 0, 1) := by decide +kernel
theorem dX5_best_121 : decode cX5_best 121 = .ok (.iload 6, 2) := by decide +kernel
theorem dX5_best_123 : decode cX5_best 123 = .ok (.iload 4, 2) := by decide +kernel
theorem dX5_best_125 : decode cX5_best 125 = .ok (.iload_n 3, 1) := by decide +kernel
theorem dX5_best_126 : decode cX5_best 126 = .ok (.iload 7, 2) := by decide +kernel
theorem dX5_best_128 : decode cX5_best 128 = .ok (.invokevirtual 119, 3) := by decide +kernel
theorem dX5_best_131 : decode cX5_best 131 = .ok (.ifCond .eq 33, 3) := by decide +kernel
theorem dX5_best_134 : decode cX5_best 134 = .ok (.aload_n 0, 1) := by decide +kernel
theorem dX5_best_135 : decode cX5_best 135 = .ok (.getfield 60, 3) := by decide +kernel
theorem dX5_best_138 : decode cX5_best 138 = .ok (.sipush 441, 3) := by decide +kernel
theorem dX5_best_141 : decode cX5_best 141 = .ok (.iload 6, 2) := by decide +kernel
theorem dX5_best_143 : decode cX5_best 143 = .ok (.iconst 1, 1) := by decide +kernel
theorem dX5_best_144 : decode cX5_best 144 = .ok (.iadd, 1) := by decide +kernel
theorem dX5_best_145 : decode cX5_best 145 = .ok (.imul, 1) := by decide +kernel
theorem dX5_best_146 : decode cX5_best 146 = .ok (.bipush 21, 2) := by decide +kernel
theorem dX5_best_148 : decode cX5_best 148 = .ok (.iload_n 3, 1) := by decide +kernel
theorem dX5_best_149 : decode cX5_best 149 = .ok (.bipush 10, 2) := by decide +kernel
theorem dX5_best_151 : decode cX5_best 151 = .ok (.iadd, 1) := by decide +kernel
theorem dX5_best_152 : decode cX5_best 152 = .ok (.imul, 1) := by decide +kernel
theorem dX5_best_153 : decode cX5_best 153 = .ok (.iadd, 1) := by decide +kernel
theorem dX5_best_154 : decode cX5_best 154 = .ok (.iload 7, 2) := by decide +kernel
theorem dX5_best_156 : decode cX5_best 156 = .ok (.iadd, 1) := by decide +kernel
theorem dX5_best_157 : decode cX5_best 157 = .ok (.bipush 10, 2) := by decide +kernel
theorem dX5_best_159 : decode cX5_best 159 = .ok (.iadd, 1) := by decide +kernel
theorem dX5_best_160 : decode cX5_best 160 = .ok (.iaload, 1) := by decide +kernel
theorem dX5_best_161 : decode cX5_best 161 = .ok (.goto 4, 3) := by decide +kernel
theorem dX5_best_164 : decode cX5_best 164 = .ok (.iconst (-1), 1) := by decide +kernel
theorem dX5_best_165 : decode cX5_best 165 = .ok (.istore 10, 2) := by decide +kernel
theorem dX5_best_167 : decode cX5_best 167 = .ok (.aload_n 0, 1) := by decide +kernel
theorem dX5_best_168 : decode cX5_best 168 = .ok (.getfield 33, 3) := by decide +kernel
theorem dX5_best_171 : decode cX5_best 171 = .ok (.iload 6, 2) := by decide +kernel
theorem dX5_best_173 : decode cX5_best 173 = .ok (.iaload, 1) := by decide +kernel
theorem dX5_best_174 : decode cX5_best 174 = .ok (.aload_n 0, 1) := by decide +kernel
theorem dX5_best_175 : decode cX5_best 175 = .ok (.getfield 45, 3) := by decide +kernel
theorem dX5_best_178 : decode cX5_best 178 = .ok (.iload_n 3, 1) := by decide +kernel
theorem dX5_best_179 : decode cX5_best 179 = .ok (.imul, 1) := by decide +kernel
theorem dX5_best_180 : decode cX5_best 180 = .ok (.iadd, 1) := by decide +kernel
theorem dX5_best_181 : decode cX5_best 181 = .ok (.aload_n 0, 1) := by decide +kernel
theorem dX5_best_182 : decode cX5_best 182 = .ok (.getfield 106, 3) := by decide +kernel
theorem dX5_best_185 : decode cX5_best 185 = .ok (.iload 6, 2) := by decide +kernel
theorem dX5_best_187 : decode cX5_best 187 = .ok (.ifCond .ne 7, 3) := by decide +kernel
theorem dX5_best_190 : decode cX5_best 190 = .ok (.iconst 0, 1) := by decide +kernel
theorem dX5_best_191 : decode cX5_best 191 = .ok (.goto 5, 3) := by decide +kernel
theorem dX5_best_194 : decode cX5_best 194 = .ok (.iload 4, 2) := by decide +kernel
theorem dX5_best_196 : decode cX5_best 196 = .ok (.iload 7, 2) := by decide +kernel
theorem dX5_best_198 : decode cX5_best 198 = .ok (.iadd, 1) := by decide +kernel
theorem dX5_best_199 : decode cX5_best 199 = .ok (.imul, 1) := by decide +kernel
theorem dX5_best_200 : decode cX5_best 200 = .ok (.iadd, 1) := by decide +kernel
theorem dX5_best_201 : decode cX5_best 201 = .ok (.invokestatic 99, 3) := by decide +kernel
theorem dX5_best_204 : decode cX5_best 204 = .ok (.istore 9, 2) := by decide +kernel
theorem dX5_best_206 : decode cX5_best 206 = .ok (.iload 10, 2) := by decide +kernel
theorem dX5_best_208 : decode cX5_best 208 = .ok (.ifCond .lt 36, 3) := by decide +kernel
theorem dX5_best_211 : decode cX5_best 211 = .ok (.iload_n 1, 1) := by decide +kernel
theorem dX5_best_212 : decode cX5_best 212 = .ok (.ifCond .ne 16, 3) := by decide +kernel
theorem dX5_best_215 : decode cX5_best 215 = .ok (.iload 9, 2) := by decide +kernel
theorem dX5_best_217 : decode cX5_best 217 = .ok (.iload 10, 2) := by decide +kernel
theorem dX5_best_219 : decode cX5_best 219 = .ok (.iadd, 1) := by decide +kernel
theorem dX5_best_220 : decode cX5_best 220 = .ok (.iload 5, 2) := by decide +kernel
theorem dX5_best_222 : decode cX5_best 222 = .ok (.if_icmp .ne 22, 3) := by decide +kernel
theorem dX5_best_225 : decode cX5_best 225 = .ok (.goto 15, 3) := by decide +kernel
theorem dX5_best_228 : decode cX5_best 228 = .ok (.iload 9, 2) := by decide +kernel
theorem dX5_best_230 : decode cX5_best 230 = .ok (.iload_n 2, 1) := by decide +kernel
theorem dX5_best_231 : decode cX5_best 231 = .ok (.if_icmp .gt 13, 3) := by decide +kernel
theorem dX5_best_234 : decode cX5_best 234 = .ok (.iload 10, 2) := by decide +kernel
theorem dX5_best_236 : decode cX5_best 236 = .ok (.iload_n 2, 1) := by decide +kernel
theorem dX5_best_237 : decode cX5_best 237 = .ok (.if_icmp .gt 7, 3) := by decide +kernel
theorem dX5_best_240 : decode cX5_best 240 = .ok (.iconst 1, 1) := by decide +kernel
theorem dX5_best_241 : decode cX5_best 241 = .ok (.goto 4, 3) := by decide +kernel
theorem dX5_best_244 : decode cX5_best 244 = .ok (.iconst 0, 1) := by decide +kernel
theorem dX5_best_245 : decode cX5_best 245 = .ok (.istore 8, 2) := by decide +kernel
theorem dX5_best_247 : decode cX5_best 247 = .ok (.goto (-135), 3) := by decide +kernel
theorem dX5_best_250 : decode cX5_best 250 = .ok (.iload 5, 2) := by decide +kernel
theorem dX5_best_252 : decode cX5_best 252 = .ok (.iload 9, 2) := by decide +kernel
theorem dX5_best_254 : decode cX5_best 254 = .ok (.isub, 1) := by decide +kernel
theorem dX5_best_255 : decode cX5_best 255 = .ok (.istore 5, 2) := by decide +kernel
theorem dX5_best_257 : decode cX5_best 257 = .ok (.iload_n 3, 1) := by decide +kernel
theorem dX5_best_258 : decode cX5_best 258 = .ok (.istore 4, 2) := by decide +kernel
theorem dX5_best_260 : decode cX5_best 260 = .ok (.iload 7, 2) := by decide +kernel
theorem dX5_best_262 : decode cX5_best 262 = .ok (.istore_n 3, 1) := by decide +kernel
theorem dX5_best_263 : decode cX5_best 263 = .ok (.aload_n 0, 1) := by decide +kernel
theorem dX5_best_264 : decode cX5_best 264 = .ok (.getfield 36, 3) := by decide +kernel
theorem dX5_best_267 : decode cX5_best 267 = .ok (.iload 6, 2) := by decide +kernel
theorem dX5_best_269 : decode cX5_best 269 = .ok (.iconst 1, 1) := by decide +kernel
theorem dX5_best_270 : decode cX5_best 270 = .ok (.iadd, 1) := by decide +kernel
theorem dX5_best_271 : decode cX5_best 271 = .ok (.iload 7, 2) := by decide +kernel
theorem dX5_best_273 : decode cX5_best 273 = .ok (.iastore, 1) := by decide +kernel
theorem dX5_best_274 : decode cX5_best 274 = .ok (.iinc 6 1, 3) := by decide +kernel
theorem dX5_best_277 : decode cX5_best 277 = .ok (.goto (-186), 3) := by decide +kernel
theorem dX5_best_280 : decode cX5_best 280 = .ok (.iload_n 2, 1) := by decide +kernel
theorem dX5_best_281 : decode cX5_best 281 = .ok (.ireturn, 1) := by decide +kernel
set_option maxRecDepth 20000 in
theorem ggX5_kind_X5_in : GoodIn wsX5_kind wsX5_in := goodIn_r _ [8] (by decide +kernel) (by decide +kernel)
set_option maxRecDepth 20000 in
theorem gX5_kind_X5_in : GoodIn wsX5_kind (va_wsS RX5 75 yX5_in wsX5_in) := goodIn_app (goodIn_of _ (by decide +kernel)) ggX5_kind_X5_in
theorem dX5_kind_0 : decode cX5_kind 0 = .ok (.iload_n 1, 1) := by decide +kernel
theorem dX5_kind_1 : decode cX5_kind 1 = .ok (.iconst 1, 1) := by decide +kernel
theorem dX5_kind_2 : decode cX5_kind 2 = .ok (.bipush 24, 2) := by decide +kernel
theorem dX5_kind_4 : decode cX5_kind 4 = .ok (.invokestatic 75, 3) := by decide +kernel
theorem dX5_kind_7 : decode cX5_kind 7 = .ok (.ifCond .eq 25, 3) := by decide +kernel
theorem dX5_kind_10 : decode cX5_kind 10 = .ok (.iload_n 2, 1) := by decide +kernel
theorem dX5_kind_11 : decode cX5_kind 11 = .ok (.iconst 1, 1) := by decide +kernel
theorem dX5_kind_12 : decode cX5_kind 12 = .ok (.sipush 1000, 3) := by decide +kernel
theorem dX5_kind_15 : decode cX5_kind 15 = .ok (.invokestatic 75, 3) := by decide +kernel
theorem dX5_kind_18 : decode cX5_kind 18 = .ok (.ifCond .eq 14, 3) := by decide +kernel
theorem dX5_kind_21 : decode cX5_kind 21 = .ok (.iload_n 3, 1) := by decide +kernel
theorem dX5_kind_22 : decode cX5_kind 22 = .ok (.iconst 0, 1) := by decide +kernel
theorem dX5_kind_23 : decode cX5_kind 23 = .ok (.sipush 2000, 3) := by decide +kernel
theorem dX5_kind_26 : decode cX5_kind 26 = .ok (.invokestatic 75, 3) := by decide +kernel
theorem dX5_kind_29 : decode cX5_kind 29 = .ok (.ifCond .ne 6, 3) := by decide +kernel
theorem dX5_kind_32 : decode cX5_kind 32 = .ok (.bipush (-2), 2) := by decide +kernel
theorem dX5_kind_34 : decode cX5_kind 34 = .ok (.ireturn, 1) := by decide +kernel
theorem dX5_kind_35 : decode cX5_kind 35 = .ok (.aload_n 0, 1) := by decide +kernel
theorem dX5_kind_36 : decode cX5_kind 36 = .ok (.getfield 82, 3) := by decide +kernel
theorem dX5_kind_39 : decode cX5_kind 39 = .ok (.iconst 4, 1) := by decide +kernel
theorem dX5_kind_40 : decode cX5_kind 40 = .ok (.if_icmp .ne 6, 3) := by decide +kernel
theorem dX5_kind_43 : decode cX5_kind 43 = .ok (.bipush (-4), 2) := by decide +kernel
theorem dX5_kind_45 : decode cX5_kind 45 = .ok (.ireturn, 1) := by decide +kernel
theorem dX5_kind_46 : decode cX5_kind 46 = .ok (.aload_n 0, 1) := by decide +kernel
theorem dX5_kind_47 : decode cX5_kind 47 = .ok (.getfield 48, 3) := by decide +kernel
theorem dX5_kind_50 : decode cX5_kind 50 = .ok (.aload_n 0, 1) := by decide +kernel
theorem dX5_kind_51 : decode cX5_kind 51 = .ok (.getfield 82, 3) := by decide +kernel
theorem dX5_kind_54 : decode cX5_kind 54 = .ok (.iload_n 1, 1) := by decide +kernel
theorem dX5_kind_55 : decode cX5_kind 55 = .ok (.iastore, 1) := by decide +kernel
theorem dX5_kind_56 : decode cX5_kind 56 = .ok (.aload_n 0, 1) := by decide +kernel
theorem dX5_kind_57 : decode cX5_kind 57 = .ok (.getfield 51, 3) := by decide +kernel
theorem dX5_kind_60 : decode cX5_kind 60 = .ok (.aload_n 0, 1) := by decide +kernel
theorem dX5_kind_61 : decode cX5_kind 61 = .ok (.getfield 82, 3) := by decide +kernel
theorem dX5_kind_64 : decode cX5_kind 64 = .ok (.iload_n 2, 1) := by decide +kernel
theorem dX5_kind_65 : decode cX5_kind 65 = .ok (.iastore, 1) := by decide +kernel
theorem dX5_kind_66 : decode cX5_kind 66 = .ok (.aload_n 0, 1) := by decide +kernel
theorem dX5_kind_67 : decode cX5_kind 67 = .ok (.getfield 54, 3) := by decide +kernel
theorem dX5_kind_70 : decode cX5_kind 70 = .ok (.aload_n 0, 1) := by decide +kernel
theorem dX5_kind_71 : decode cX5_kind 71 = .ok (.getfield 82, 3) := by decide +kernel
theorem dX5_kind_74 : decode cX5_kind 74 = .ok (.iload_n 3, 1) := by decide +kernel
theorem dX5_kind_75 : decode cX5_kind 75 = .ok (.iastore, 1) := by decide +kernel
theorem dX5_kind_76 : decode cX5_kind 76 = .ok (.aload_n 0, 1) := by decide +kernel
theorem dX5_kind_77 : decode cX5_kind 77 = .ok (.dup, 1) := by decide +kernel
theorem dX5_kind_78 : decode cX5_kind 78 = .ok (.getfield 82, 3) := by decide +kernel
theorem dX5_kind_81 : decode cX5_kind 81 = .ok (.iconst 1, 1) := by decide +kernel
theorem dX5_kind_82 : decode cX5_kind 82 = .ok (.iadd, 1) := by decide +kernel
theorem dX5_kind_83 : decode cX5_kind 83 = .ok (.putfield 82, 3) := by decide +kernel
theorem dX5_kind_86 : decode cX5_kind 86 = .ok (.aload_n 0, 1) := by decide +kernel
theorem dX5_kind_87 : decode cX5_kind 87 = .ok (.getfield 82, 3) := by decide +kernel
theorem dX5_kind_90 : decode cX5_kind 90 = .ok (.iconst 1, 1) := by decide +kernel
theorem dX5_kind_91 : decode cX5_kind 91 = .ok (.isub, 1) := by decide +kernel
theorem dX5_kind_92 : decode cX5_kind 92 = .ok (.ireturn, 1) := by decide +kernel
set_option maxRecDepth 20000 in
theorem ggX5_lies_X5_error : GoodIn wsX5_lies wsX5_error := goodIn_r _ [8, 9, 2, 10, 11, 12, 16, 17, 18, 19, 20, 21, 22, 23, 24, 25, 26, 27, 28, 29, 30, 31, 32, 33, 34, 35, 36, 37, 38, 39] (by decide +kernel) (by decide +kernel)
set_option maxRecDepth 20000 in
theorem gX5_lies_X5_error : GoodIn wsX5_lies (wsV RX5 109 RX5 yX5_error wsX5_error) := goodIn_app (goodIn_of _ (by decide +kernel)) ggX5_lies_X5_error
set_option maxRecDepth 20000 in
theorem ggX5_lies_X5_size : GoodIn wsX5_lies wsX5_size := goodIn_r _ [15] (by decide +kernel) (by decide +kernel)
set_option maxRecDepth 20000 in
theorem gX5_lies_X5_size : GoodIn wsX5_lies (va_wsS RX5 99 yX5_size wsX5_size) := goodIn_app (goodIn_of _ (by decide +kernel)) ggX5_lies_X5_size
theorem dX5_lies_0 : decode cX5_lies 0 = .ok (.iload_n 2, 1) := by decide +kernel
theorem dX5_lies_1 : decode cX5_lies 1 = .ok (.aload_n 0, 1) := by decide +kernel
theorem dX5_lies_2 : decode cX5_lies 2 = .ok (.getfield 48, 3) := by decide +kernel
theorem dX5_lies_5 : decode cX5_lies 5 = .ok (.iload_n 1, 1) := by decide +kernel
theorem dX5_lies_6 : decode cX5_lies 6 = .ok (.iaload, 1) := by decide +kernel
theorem dX5_lies_7 : decode cX5_lies 7 = .ok (.iadd, 1) := by decide +kernel
theorem dX5_lies_8 : decode cX5_lies 8 = .ok (.aload_n 0, 1) := by decide +kernel
theorem dX5_lies_9 : decode cX5_lies 9 = .ok (.getfield 7, 3) := by decide +kernel
theorem dX5_lies_12 : decode cX5_lies 12 = .ok (.if_icmp .gt 7, 3) := by decide +kernel
theorem dX5_lies_15 : decode cX5_lies 15 = .ok (.iconst 1, 1) := by decide +kernel
theorem dX5_lies_16 : decode cX5_lies 16 = .ok (.goto 4, 3) := by decide +kernel
theorem dX5_lies_19 : decode cX5_lies 19 = .ok (.iconst 0, 1) := by decide +kernel
theorem dX5_lies_20 : decode cX5_lies 20 = .ok (.istore_n 3, 1) := by decide +kernel
theorem dX5_lies_21 : decode cX5_lies 21 = .ok (.iload_n 2, 1) := by decide +kernel
theorem dX5_lies_22 : decode cX5_lies 22 = .ok (.istore 4, 2) := by decide +kernel
theorem dX5_lies_24 : decode cX5_lies 24 = .ok (.iload 4, 2) := by decide +kernel
theorem dX5_lies_26 : decode cX5_lies 26 = .ok (.iload_n 2, 1) := by decide +kernel
theorem dX5_lies_27 : decode cX5_lies 27 = .ok (.aload_n 0, 1) := by decide +kernel
theorem dX5_lies_28 : decode cX5_lies 28 = .ok (.getfield 48, 3) := by decide +kernel
theorem dX5_lies_31 : decode cX5_lies 31 = .ok (.iload_n 1, 1) := by decide +kernel
theorem dX5_lies_32 : decode cX5_lies 32 = .ok (.iaload, 1) := by decide +kernel
theorem dX5_lies_33 : decode cX5_lies 33 = .ok (.iadd, 1) := by decide +kernel
theorem dX5_lies_34 : decode cX5_lies 34 = .ok (.if_icmp .ge 37, 3) := by decide +kernel
theorem dX5_lies_37 : decode cX5_lies 37 = .ok (.iload_n 3, 1) := by decide +kernel
theorem dX5_lies_38 : decode cX5_lies 38 = .ok (.ifCond .eq 33, 3) := by decide +kernel
theorem dX5_lies_41 : decode cX5_lies 41 = .ok (.aload_n 0, 1) := by decide +kernel
theorem dX5_lies_42 : decode cX5_lies 42 = .ok (.iload 4, 2) := by decide +kernel
theorem dX5_lies_44 : decode cX5_lies 44 = .ok (.invokevirtual 109, 3) := by decide +kernel
theorem dX5_lies_47 : decode cX5_lies 47 = .ok (.invokestatic 99, 3) := by decide +kernel
theorem dX5_lies_50 : decode cX5_lies 50 = .ok (.aload_n 0, 1) := by decide +kernel
theorem dX5_lies_51 : decode cX5_lies 51 = .ok (.getfield 54, 3) := by decide +kernel
theorem dX5_lies_54 : decode cX5_lies 54 = .ok (.iload_n 1, 1) := by decide +kernel
theorem dX5_lies_55 : decode cX5_lies 55 = .ok (.iaload, 1) := by decide +kernel
theorem dX5_lies_56 : decode cX5_lies 56 = .ok (.if_icmp .gt 7, 3) := by decide +kernel
theorem dX5_lies_59 : decode cX5_lies 59 = .ok (.iconst 1, 1) := by decide +kernel
theorem dX5_lies_60 : decode cX5_lies 60 = .ok (.goto 4, 3) := by decide +kernel
theorem dX5_lies_63 : decode cX5_lies 63 = .ok (.iconst 0, 1) := by decide +kernel
theorem dX5_lies_64 : decode cX5_lies 64 = .ok (.istore_n 3, 1) := by decide +kernel
theorem dX5_lies_65 : decode cX5_lies 65 = .ok (.iinc 4 1, 3) := by decide +kernel
theorem dX5_lies_68 : decode cX5_lies 68 = .ok (.goto (-44), 3) := by decide +kernel
theorem dX5_lies_71 : decode cX5_lies 71 = .ok (.iload_n 3, 1) := by decide +kernel
theorem dX5_lies_72 : decode cX5_lies 72 = .ok (.ireturn, 1) := by decide +kernel
set_option maxRecDepth 20000 in
theorem ggX5_canLie_X5_in : GoodIn wsX5_canLie wsX5_in := goodIn_r _ [5] (by decide +kernel) (by decide +kernel)
set_option maxRecDepth 20000 in
theorem gX5_canLie_X5_in : GoodIn wsX5_canLie (va_wsS RX5 75 yX5_in wsX5_in) := goodIn_app (goodIn_of _ (by decide +kernel)) ggX5_canLie_X5_in
set_option maxRecDepth 20000 in
theorem ggX5_canLie_X5_isPlace : GoodIn wsX5_canLie wsX5_isPlace := goodIn_r _ [9, 10, 2, 3, 4, 5, 28, 29, 30, 31, 32, 33, 34, 35, 36, 37, 38, 39, 40, 41, 42, 43, 44, 45, 46, 47, 48, 49, 50, 51] (by decide +kernel) (by decide +kernel)
set_option maxRecDepth 20000 in
theorem gX5_canLie_X5_isPlace : GoodIn wsX5_canLie (wsV RX5 85 RX5 yX5_isPlace wsX5_isPlace) := goodIn_app (goodIn_of _ (by decide +kernel)) ggX5_canLie_X5_isPlace
set_option maxRecDepth 20000 in
theorem ggX5_canLie_X5_lies : GoodIn wsX5_canLie wsX5_lies := goodIn_r _ [14, 15, 10, 16, 17, 18, 19, 4, 20, 21, 22, 23, 24, 25, 26, 27, 28, 29, 30, 31, 32, 33, 34, 35, 36, 37, 38, 39, 40, 41, 42, 43, 44, 45, 46, 47, 48, 49, 50, 51] (by decide +kernel) (by decide +kernel)
set_option maxRecDepth 20000 in
theorem gX5_canLie_X5_lies : GoodIn wsX5_canLie (wsV RX5 127 RX5 yX5_lies wsX5_lies) := goodIn_app (goodIn_of _ (by decide +kernel)) ggX5_canLie_X5_lies
theorem dX5_canLie_0 : decode cX5_canLie 0 = .ok (.iload_n 1, 1) := by decide +kernel
theorem dX5_canLie_1 : decode cX5_canLie 1 = .ok (.iconst 0, 1) := by decide +kernel
theorem dX5_canLie_2 : decode cX5_canLie 2 = .ok (.aload_n 0, 1) := by decide +kernel
theorem dX5_canLie_3 : decode cX5_canLie 3 = .ok (.getfield 82, 3) := by decide +kernel
theorem dX5_canLie_6 : decode cX5_canLie 6 = .ok (.iconst 1, 1) := by decide +kernel
theorem dX5_canLie_7 : decode cX5_canLie 7 = .ok (.isub, 1) := by decide +kernel
theorem dX5_canLie_8 : decode cX5_canLie 8 = .ok (.invokestatic 75, 3) := by decide +kernel
theorem dX5_canLie_11 : decode cX5_canLie 11 = .ok (.ifCond .eq 28, 3) := by decide +kernel
theorem dX5_canLie_14 : decode cX5_canLie 14 = .ok (.aload_n 0, 1) := by decide +kernel
theorem dX5_canLie_15 : decode cX5_canLie 15 = .ok (.iload_n 2, 1) := by decide +kernel
end
section
theorem dX5_canLie_16 : decode cX5_canLie 16 = .ok (.invokevirtual 85, 3) := by decide +kernel
theorem dX5_canLie_19 : decode cX5_canLie 19 = .ok (.ifCond .eq 20, 3) := by decide +kernel
theorem dX5_canLie_22 : decode cX5_canLie 22 = .ok (.aload_n 0, 1) := by decide +kernel
theorem dX5_canLie_23 : decode cX5_canLie 23 = .ok (.iload_n 1, 1) := by decide +kernel
theorem dX5_canLie_24 : decode cX5_canLie 24 = .ok (.iload_n 2, 1) := by decide +kernel
theorem dX5_canLie_25 : decode cX5_canLie 25 = .ok (.invokevirtual 127, 3) := by decide +kernel
theorem dX5_canLie_28 : decode cX5_canLie 28 = .ok (.ifCond .eq 7, 3) := by decide +kernel
theorem dX5_canLie_31 : decode cX5_canLie 31 = .ok (.iconst 1, 1) := by decide +kernel
theorem dX5_canLie_32 : decode cX5_canLie 32 = .ok (.goto 8, 3) := by decide +kernel
theorem dX5_canLie_35 : decode cX5_canLie 35 = .ok (.iconst 0, 1) := by decide +kernel
theorem dX5_canLie_36 : decode cX5_canLie 36 = .ok (.goto 4, 3) := by decide +kernel
theorem dX5_canLie_39 : decode cX5_canLie 39 = .ok (.iconst (-1), 1) := by decide +kernel
theorem dX5_canLie_40 : decode cX5_canLie 40 = .ok (.ireturn, 1) := by decide +kernel
set_option maxRecDepth 20000 in
theorem ggX5_layCut_X5_lies : GoodIn wsX5_layCut wsX5_lies := goodIn_r _ [11, 6, 2, 12, 13, 14, 15, 10, 16, 17, 18, 19, 20, 21, 22, 23, 24, 25, 26, 27, 28, 29, 30, 31, 32, 33, 34, 35, 36, 37, 38, 39, 40, 41, 42, 43, 44, 45, 46, 47] (by decide +kernel) (by decide +kernel)
set_option maxRecDepth 20000 in
theorem gX5_layCut_X5_lies : GoodIn wsX5_layCut (wsV RX5 127 RX5 yX5_lies wsX5_lies) := goodIn_app (goodIn_of _ (by decide +kernel)) ggX5_layCut_X5_lies
theorem dX5_layCut_0 : decode cX5_layCut 0 = .ok (.aload_n 0, 1) := by decide +kernel
theorem dX5_layCut_1 : decode cX5_layCut 1 = .ok (.getfield 63, 3) := by decide +kernel
theorem dX5_layCut_4 : decode cX5_layCut 4 = .ok (.aload_n 0, 1) := by decide +kernel
theorem dX5_layCut_5 : decode cX5_layCut 5 = .ok (.getfield 7, 3) := by decide +kernel
theorem dX5_layCut_8 : decode cX5_layCut 8 = .ok (.iconst 0, 1) := by decide +kernel
theorem dX5_layCut_9 : decode cX5_layCut 9 = .ok (.iastore, 1) := by decide +kernel
theorem dX5_layCut_10 : decode cX5_layCut 10 = .ok (.aload_n 0, 1) := by decide +kernel
theorem dX5_layCut_11 : decode cX5_layCut 11 = .ok (.getfield 7, 3) := by decide +kernel
theorem dX5_layCut_14 : decode cX5_layCut 14 = .ok (.iconst 1, 1) := by decide +kernel
theorem dX5_layCut_15 : decode cX5_layCut 15 = .ok (.isub, 1) := by decide +kernel
theorem dX5_layCut_16 : decode cX5_layCut 16 = .ok (.istore_n 1, 1) := by decide +kernel
theorem dX5_layCut_17 : decode cX5_layCut 17 = .ok (.iload_n 1, 1) := by decide +kernel
theorem dX5_layCut_18 : decode cX5_layCut 18 = .ok (.ifCond .lt 106, 3) := by decide +kernel
theorem dX5_layCut_21 : decode cX5_layCut 21 = .ok (.aload_n 0, 1) := by decide +kernel
theorem dX5_layCut_22 : decode cX5_layCut 22 = .ok (.getfield 63, 3) := by decide +kernel
theorem dX5_layCut_25 : decode cX5_layCut 25 = .ok (.iload_n 1, 1) := by decide +kernel
theorem dX5_layCut_26 : decode cX5_layCut 26 = .ok (.aload_n 0, 1) := by decide +kernel
theorem dX5_layCut_27 : decode cX5_layCut 27 = .ok (.getfield 63, 3) := by decide +kernel
theorem dX5_layCut_30 : decode cX5_layCut 30 = .ok (.iload_n 1, 1) := by decide +kernel
theorem dX5_layCut_31 : decode cX5_layCut 31 = .ok (.iconst 1, 1) := by decide +kernel
theorem dX5_layCut_32 : decode cX5_layCut 32 = .ok (.iadd, 1) := by decide +kernel
theorem dX5_layCut_33 : decode cX5_layCut 33 = .ok (.iaload, 1) := by decide +kernel
theorem dX5_layCut_34 : decode cX5_layCut 34 = .ok (.iastore, 1) := by decide +kernel
theorem dX5_layCut_35 : decode cX5_layCut 35 = .ok (.aload_n 0, 1) := by decide +kernel
theorem dX5_layCut_36 : decode cX5_layCut 36 = .ok (.getfield 66, 3) := by decide +kernel
theorem dX5_layCut_39 : decode cX5_layCut 39 = .ok (.iload_n 1, 1) := by decide +kernel
theorem dX5_layCut_40 : decode cX5_layCut 40 = .ok (.bipush (-6), 2) := by decide +kernel
theorem dX5_layCut_42 : decode cX5_layCut 42 = .ok (.iastore, 1) := by decide +kernel
theorem dX5_layCut_43 : decode cX5_layCut 43 = .ok (.aload_n 0, 1) := by decide +kernel
theorem dX5_layCut_44 : decode cX5_layCut 44 = .ok (.getfield 82, 3) := by decide +kernel
theorem dX5_layCut_47 : decode cX5_layCut 47 = .ok (.iconst 1, 1) := by decide +kernel
theorem dX5_layCut_48 : decode cX5_layCut 48 = .ok (.isub, 1) := by decide +kernel
theorem dX5_layCut_49 : decode cX5_layCut 49 = .ok (.istore_n 2, 1) := by decide +kernel
theorem dX5_layCut_50 : decode cX5_layCut 50 = .ok (.iload_n 2, 1) := by decide +kernel
theorem dX5_layCut_51 : decode cX5_layCut 51 = .ok (.ifCond .lt 67, 3) := by decide +kernel
theorem dX5_layCut_54 : decode cX5_layCut 54 = .ok (.aload_n 0, 1) := by decide +kernel
theorem dX5_layCut_55 : decode cX5_layCut 55 = .ok (.iload_n 2, 1) := by decide +kernel
theorem dX5_layCut_56 : decode cX5_layCut 56 = .ok (.iload_n 1, 1) := by decide +kernel
theorem dX5_layCut_57 : decode cX5_layCut 57 = .ok (.invokevirtual 127, 3) := by decide +kernel
theorem dX5_layCut_60 : decode cX5_layCut 60 = .ok (.ifCond .eq 26, 3) := by decide +kernel
theorem dX5_layCut_63 : decode cX5_layCut 63 = .ok (.aload_n 0, 1) := by decide +kernel
theorem dX5_layCut_64 : decode cX5_layCut 64 = .ok (.getfield 51, 3) := by decide +kernel
theorem dX5_layCut_67 : decode cX5_layCut 67 = .ok (.iload_n 2, 1) := by decide +kernel
theorem dX5_layCut_68 : decode cX5_layCut 68 = .ok (.iaload, 1) := by decide +kernel
theorem dX5_layCut_69 : decode cX5_layCut 69 = .ok (.aload_n 0, 1) := by decide +kernel
theorem dX5_layCut_70 : decode cX5_layCut 70 = .ok (.getfield 63, 3) := by decide +kernel
theorem dX5_layCut_73 : decode cX5_layCut 73 = .ok (.iload_n 1, 1) := by decide +kernel
theorem dX5_layCut_74 : decode cX5_layCut 74 = .ok (.aload_n 0, 1) := by decide +kernel
theorem dX5_layCut_75 : decode cX5_layCut 75 = .ok (.getfield 48, 3) := by decide +kernel
theorem dX5_layCut_78 : decode cX5_layCut 78 = .ok (.iload_n 2, 1) := by decide +kernel
theorem dX5_layCut_79 : decode cX5_layCut 79 = .ok (.iaload, 1) := by decide +kernel
theorem dX5_layCut_80 : decode cX5_layCut 80 = .ok (.iadd, 1) := by decide +kernel
theorem dX5_layCut_81 : decode cX5_layCut 81 = .ok (.iaload, 1) := by decide +kernel
theorem dX5_layCut_82 : decode cX5_layCut 82 = .ok (.iadd, 1) := by decide +kernel
theorem dX5_layCut_83 : decode cX5_layCut 83 = .ok (.goto 4, 3) := by decide +kernel
theorem dX5_layCut_86 : decode cX5_layCut 86 = .ok (.iconst (-1), 1) := by decide +kernel
theorem dX5_layCut_87 : decode cX5_layCut 87 = .ok (.istore_n 3, 1) := by decide +kernel
theorem dX5_layCut_88 : decode cX5_layCut 88 = .ok (.iload_n 3, 1) := by decide +kernel
theorem dX5_layCut_89 : decode cX5_layCut 89 = .ok (.aload_n 0, 1) := by decide +kernel
theorem dX5_layCut_90 : decode cX5_layCut 90 = .ok (.getfield 63, 3) := by decide +kernel
theorem dX5_layCut_93 : decode cX5_layCut 93 = .ok (.iload_n 1, 1) := by decide +kernel
theorem dX5_layCut_94 : decode cX5_layCut 94 = .ok (.iaload, 1) := by decide +kernel
theorem dX5_layCut_95 : decode cX5_layCut 95 = .ok (.if_icmp .lt 17, 3) := by decide +kernel
theorem dX5_layCut_98 : decode cX5_layCut 98 = .ok (.aload_n 0, 1) := by decide +kernel
theorem dX5_layCut_99 : decode cX5_layCut 99 = .ok (.getfield 63, 3) := by decide +kernel
theorem dX5_layCut_102 : decode cX5_layCut 102 = .ok (.iload_n 1, 1) := by decide +kernel
theorem dX5_layCut_103 : decode cX5_layCut 103 = .ok (.iload_n 3, 1) := by decide +kernel
theorem dX5_layCut_104 : decode cX5_layCut 104 = .ok (.iastore, 1) := by decide +kernel
theorem dX5_layCut_105 : decode cX5_layCut 105 = .ok (.aload_n 0, 1) := by decide +kernel
theorem dX5_layCut_106 : decode cX5_layCut 106 = .ok (.getfield 66, 3) := by decide +kernel
theorem dX5_layCut_109 : decode cX5_layCut 109 = .ok (.iload_n 1, 1) := by decide +kernel
theorem dX5_layCut_110 : decode cX5_layCut 110 = .ok (.iload_n 2, 1) := by decide +kernel
theorem dX5_layCut_111 : decode cX5_layCut 111 = .ok (.iastore, 1) := by decide +kernel
theorem dX5_layCut_112 : decode cX5_layCut 112 = .ok (.iinc 2 (-1), 3) := by decide +kernel
theorem dX5_layCut_115 : decode cX5_layCut 115 = .ok (.goto (-65), 3) := by decide +kernel
theorem dX5_layCut_118 : decode cX5_layCut 118 = .ok (.iinc 1 (-1), 3) := by decide +kernel
theorem dX5_layCut_121 : decode cX5_layCut 121 = .ok (.goto (-104), 3) := by decide +kernel
theorem dX5_layCut_124 : decode cX5_layCut 124 = .ok (.return_, 1) := by decide +kernel
set_option maxRecDepth 20000 in
theorem ggX5_cut_X5_layCut : GoodIn wsX5_cut wsX5_layCut := goodIn_r _ [6, 1, 7, 8, 9, 10, 11, 12, 13, 14, 5, 15, 16, 17, 18, 19, 20, 21, 22, 23, 24, 25, 26, 27, 28, 29, 30, 31, 32, 33, 34, 35, 36, 37, 38, 39, 40, 41, 42, 43, 44, 45, 46, 47, 48, 49, 50, 51] (by decide +kernel) (by decide +kernel)
set_option maxRecDepth 20000 in
theorem gX5_cut_X5_layCut : GoodIn wsX5_cut (wsV RX5 130 RX5 yX5_layCut wsX5_layCut) := goodIn_app (goodIn_of _ (by decide +kernel)) ggX5_cut_X5_layCut
theorem dX5_cut_0 : decode cX5_cut 0 = .ok (.aload_n 0, 1) := by decide +kernel
theorem dX5_cut_1 : decode cX5_cut 1 = .ok (.invokevirtual 130, 3) := by decide +kernel
theorem dX5_cut_4 : decode cX5_cut 4 = .ok (.aload_n 0, 1) := by decide +kernel
theorem dX5_cut_5 : decode cX5_cut 5 = .ok (.getfield 63, 3) := by decide +kernel
theorem dX5_cut_8 : decode cX5_cut 8 = .ok (.iconst 0, 1) := by decide +kernel
theorem dX5_cut_9 : decode cX5_cut 9 = .ok (.iaload, 1) := by decide +kernel
theorem dX5_cut_10 : decode cX5_cut 10 = .ok (.ireturn, 1) := by decide +kernel
set_option maxRecDepth 20000 in
theorem ggX5_cutAt_X5_isPlace : GoodIn wsX5_cutAt wsX5_isPlace := goodIn_r _ [7, 8, 9, 10, 6, 11, 35, 36, 37, 38, 39, 40, 41, 42, 43, 44, 45, 46, 47, 48, 49, 50, 51, 52, 53, 54, 55, 56, 57, 58] (by decide +kernel) (by decide +kernel)
set_option maxRecDepth 20000 in
theorem gX5_cutAt_X5_isPlace : GoodIn wsX5_cutAt (wsV RX5 85 RX5 yX5_isPlace wsX5_isPlace) := goodIn_app (goodIn_of _ (by decide +kernel)) ggX5_cutAt_X5_isPlace
set_option maxRecDepth 20000 in
theorem ggX5_cutAt_X5_layCut : GoodIn wsX5_cutAt wsX5_layCut := goodIn_r _ [15, 16, 8, 1, 17, 18, 2, 19, 20, 21, 6, 22, 23, 24, 25, 26, 27, 28, 29, 30, 31, 32, 33, 34, 35, 36, 37, 38, 39, 40, 41, 42, 43, 44, 45, 46, 47, 48, 49, 50, 51, 52, 53, 54, 55, 56, 57, 58] (by decide +kernel) (by decide +kernel)
set_option maxRecDepth 20000 in
theorem gX5_cutAt_X5_layCut : GoodIn wsX5_cutAt (wsV RX5 130 RX5 yX5_layCut wsX5_layCut) := goodIn_app (goodIn_of _ (by decide +kernel)) ggX5_cutAt_X5_layCut
theorem dX5_cutAt_0 : decode cX5_cutAt 0 = .ok (.aload_n 0, 1) := by decide +kernel
theorem dX5_cutAt_1 : decode cX5_cutAt 1 = .ok (.iload_n 1, 1) := by decide +kernel
theorem dX5_cutAt_2 : decode cX5_cutAt 2 = .ok (.invokevirtual 85, 3) := by decide +kernel
theorem dX5_cutAt_5 : decode cX5_cutAt 5 = .ok (.ifCond .ne 5, 3) := by decide +kernel
theorem dX5_cutAt_8 : decode cX5_cutAt 8 = .ok (.iconst (-1), 1) := by decide +kernel
theorem dX5_cutAt_9 : decode cX5_cutAt 9 = .ok (.ireturn, 1) := by decide +kernel
theorem dX5_cutAt_10 : decode cX5_cutAt 10 = .ok (.aload_n 0, 1) := by decide +kernel
theorem dX5_cutAt_11 : decode cX5_cutAt 11 = .ok (.invokevirtual 130, 3) := by decide +kernel
theorem dX5_cutAt_14 : decode cX5_cutAt 14 = .ok (.iconst 0, 1) := by decide +kernel
theorem dX5_cutAt_15 : decode cX5_cutAt 15 = .ok (.istore_n 2, 1) := by decide +kernel
theorem dX5_cutAt_16 : decode cX5_cutAt 16 = .ok (.iload_n 2, 1) := by decide +kernel
theorem dX5_cutAt_17 : decode cX5_cutAt 17 = .ok (.iload_n 1, 1) := by decide +kernel
theorem dX5_cutAt_18 : decode cX5_cutAt 18 = .ok (.if_icmp .ge 33, 3) := by decide +kernel
theorem dX5_cutAt_21 : decode cX5_cutAt 21 = .ok (.iload_n 2, 1) := by decide +kernel
theorem dX5_cutAt_22 : decode cX5_cutAt 22 = .ok (.aload_n 0, 1) := by decide +kernel
theorem dX5_cutAt_23 : decode cX5_cutAt 23 = .ok (.getfield 66, 3) := by decide +kernel
theorem dX5_cutAt_26 : decode cX5_cutAt 26 = .ok (.iload_n 2, 1) := by decide +kernel
theorem dX5_cutAt_27 : decode cX5_cutAt 27 = .ok (.iaload, 1) := by decide +kernel
theorem dX5_cutAt_28 : decode cX5_cutAt 28 = .ok (.ifCond .lt 17, 3) := by decide +kernel
theorem dX5_cutAt_31 : decode cX5_cutAt 31 = .ok (.aload_n 0, 1) := by decide +kernel
theorem dX5_cutAt_32 : decode cX5_cutAt 32 = .ok (.getfield 48, 3) := by decide +kernel
theorem dX5_cutAt_35 : decode cX5_cutAt 35 = .ok (.aload_n 0, 1) := by decide +kernel
theorem dX5_cutAt_36 : decode cX5_cutAt 36 = .ok (.getfield 66, 3) := by decide +kernel
theorem dX5_cutAt_39 : decode cX5_cutAt 39 = .ok (.iload_n 2, 1) := by decide +kernel
theorem dX5_cutAt_40 : decode cX5_cutAt 40 = .ok (.iaload, 1) := by decide +kernel
theorem dX5_cutAt_41 : decode cX5_cutAt 41 = .ok (.iaload, 1) := by decide +kernel
theorem dX5_cutAt_42 : decode cX5_cutAt 42 = .ok (.goto 4, 3) := by decide +kernel
theorem dX5_cutAt_45 : decode cX5_cutAt 45 = .ok (.iconst 1, 1) := by decide +kernel
theorem dX5_cutAt_46 : decode cX5_cutAt 46 = .ok (.iadd, 1) := by decide +kernel
theorem dX5_cutAt_47 : decode cX5_cutAt 47 = .ok (.istore_n 2, 1) := by decide +kernel
theorem dX5_cutAt_48 : decode cX5_cutAt 48 = .ok (.goto (-32), 3) := by decide +kernel
theorem dX5_cutAt_51 : decode cX5_cutAt 51 = .ok (.iload_n 2, 1) := by decide +kernel
theorem dX5_cutAt_52 : decode cX5_cutAt 52 = .ok (.iload_n 1, 1) := by decide +kernel
theorem dX5_cutAt_53 : decode cX5_cutAt 53 = .ok (.if_icmp .ne 12, 3) := by decide +kernel
theorem dX5_cutAt_56 : decode cX5_cutAt 56 = .ok (.aload_n 0, 1) := by decide +kernel
theorem dX5_cutAt_57 : decode cX5_cutAt 57 = .ok (.getfield 66, 3) := by decide +kernel
theorem dX5_cutAt_60 : decode cX5_cutAt 60 = .ok (.iload_n 2, 1) := by decide +kernel
theorem dX5_cutAt_61 : decode cX5_cutAt 61 = .ok (.iaload, 1) := by decide +kernel
theorem dX5_cutAt_62 : decode cX5_cutAt 62 = .ok (.goto 5, 3) := by decide +kernel
theorem dX5_cutAt_65 : decode cX5_cutAt 65 = .ok (.bipush (-6), 2) := by decide +kernel
theorem dX5_cutAt_67 : decode cX5_cutAt 67 = .ok (.ireturn, 1) := by decide +kernel
theorem dX5_grade_0 : decode cX5_grade 0 = .ok (.aload_n 0, 1) := by decide +kernel
theorem dX5_grade_1 : decode cX5_grade 1 = .ok (.getfield 133, 3) := by decide +kernel
theorem dX5_grade_4 : decode cX5_grade 4 = .ok (.bipush 9, 2) := by decide +kernel
theorem dX5_grade_6 : decode cX5_grade 6 = .ok (.if_icmp .ne 6, 3) := by decide +kernel
theorem dX5_grade_9 : decode cX5_grade 9 = .ok (.bipush (-4), 2) := by decide +kernel
theorem dX5_grade_11 : decode cX5_grade 11 = .ok (.ireturn, 1) := by decide +kernel
theorem dX5_grade_12 : decode cX5_grade 12 = .ok (.iconst 0, 1) := by decide +kernel
theorem dX5_grade_13 : decode cX5_grade 13 = .ok (.istore_n 1, 1) := by decide +kernel
theorem dX5_grade_14 : decode cX5_grade 14 = .ok (.iload_n 1, 1) := by decide +kernel
theorem dX5_grade_15 : decode cX5_grade 15 = .ok (.bipush 9, 2) := by decide +kernel
theorem dX5_grade_17 : decode cX5_grade 17 = .ok (.if_icmp .ge 41, 3) := by decide +kernel
theorem dX5_grade_20 : decode cX5_grade 20 = .ok (.aload_n 0, 1) := by decide +kernel
theorem dX5_grade_21 : decode cX5_grade 21 = .ok (.getfield 57, 3) := by decide +kernel
theorem dX5_grade_24 : decode cX5_grade 24 = .ok (.bipush 9, 2) := by decide +kernel
theorem dX5_grade_26 : decode cX5_grade 26 = .ok (.aload_n 0, 1) := by decide +kernel
theorem dX5_grade_27 : decode cX5_grade 27 = .ok (.getfield 133, 3) := by decide +kernel
theorem dX5_grade_30 : decode cX5_grade 30 = .ok (.imul, 1) := by decide +kernel
theorem dX5_grade_31 : decode cX5_grade 31 = .ok (.iload_n 1, 1) := by decide +kernel
theorem dX5_grade_32 : decode cX5_grade 32 = .ok (.iadd, 1) := by decide +kernel
theorem dX5_grade_33 : decode cX5_grade 33 = .ok (.bipush 100, 2) := by decide +kernel
theorem dX5_grade_35 : decode cX5_grade 35 = .ok (.iastore, 1) := by decide +kernel
theorem dX5_grade_36 : decode cX5_grade 36 = .ok (.aload_n 0, 1) := by decide +kernel
theorem dX5_grade_37 : decode cX5_grade 37 = .ok (.getfield 57, 3) := by decide +kernel
theorem dX5_grade_40 : decode cX5_grade 40 = .ok (.bipush 9, 2) := by decide +kernel
theorem dX5_grade_42 : decode cX5_grade 42 = .ok (.iload_n 1, 1) := by decide +kernel
theorem dX5_grade_43 : decode cX5_grade 43 = .ok (.imul, 1) := by decide +kernel
theorem dX5_grade_44 : decode cX5_grade 44 = .ok (.aload_n 0, 1) := by decide +kernel
theorem dX5_grade_45 : decode cX5_grade 45 = .ok (.getfield 133, 3) := by decide +kernel
theorem dX5_grade_48 : decode cX5_grade 48 = .ok (.iadd, 1) := by decide +kernel
theorem dX5_grade_49 : decode cX5_grade 49 = .ok (.bipush 100, 2) := by decide +kernel
theorem dX5_grade_51 : decode cX5_grade 51 = .ok (.iastore, 1) := by decide +kernel
theorem dX5_grade_52 : decode cX5_grade 52 = .ok (.iinc 1 1, 3) := by decide +kernel
theorem dX5_grade_55 : decode cX5_grade 55 = .ok (.goto (-41), 3) := by decide +kernel
theorem dX5_grade_58 : decode cX5_grade 58 = .ok (.aload_n 0, 1) := by decide +kernel
theorem dX5_grade_59 : decode cX5_grade 59 = .ok (.dup, 1) := by decide +kernel
theorem dX5_grade_60 : decode cX5_grade 60 = .ok (.getfield 133, 3) := by decide +kernel
theorem dX5_grade_63 : decode cX5_grade 63 = .ok (.iconst 1, 1) := by decide +kernel
theorem dX5_grade_64 : decode cX5_grade 64 = .ok (.iadd, 1) := by decide +kernel
theorem dX5_grade_65 : decode cX5_grade 65 = .ok (.putfield 133, 3) := by decide +kernel
theorem dX5_grade_68 : decode cX5_grade 68 = .ok (.aload_n 0, 1) := by decide +kernel
theorem dX5_grade_69 : decode cX5_grade 69 = .ok (.getfield 133, 3) := by decide +kernel
theorem dX5_grade_72 : decode cX5_grade 72 = .ok (.iconst 1, 1) := by decide +kernel
theorem dX5_grade_73 : decode cX5_grade 73 = .ok (.isub, 1) := by decide +kernel
theorem dX5_grade_74 : decode cX5_grade 74 = .ok (.ireturn, 1) := by decide +kernel
set_option maxRecDepth 20000 in
theorem ggX5_isGrade_X5_in : GoodIn wsX5_isGrade wsX5_in := goodIn_r _ [5] (by decide +kernel) (by decide +kernel)
set_option maxRecDepth 20000 in
theorem gX5_isGrade_X5_in : GoodIn wsX5_isGrade (va_wsS RX5 75 yX5_in wsX5_in) := goodIn_app (goodIn_of _ (by decide +kernel)) ggX5_isGrade_X5_in
theorem dX5_isGrade_0 : decode cX5_isGrade 0 = .ok (.iload_n 1, 1) := by decide +kernel
theorem dX5_isGrade_1 : decode cX5_isGrade 1 = .ok (.iconst 0, 1) := by decide +kernel
theorem dX5_isGrade_2 : decode cX5_isGrade 2 = .ok (.aload_n 0, 1) := by decide +kernel
theorem dX5_isGrade_3 : decode cX5_isGrade 3 = .ok (.getfield 133, 3) := by decide +kernel
theorem dX5_isGrade_6 : decode cX5_isGrade 6 = .ok (.iconst 1, 1) := by decide +kernel
theorem dX5_isGrade_7 : decode cX5_isGrade 7 = .ok (.isub, 1) := by decide +kernel
theorem dX5_isGrade_8 : decode cX5_isGrade 8 = .ok (.invokestatic 75, 3) := by decide +kernel
theorem dX5_isGrade_11 : decode cX5_isGrade 11 = .ok (.ireturn, 1) := by decide +kernel
set_option maxRecDepth 20000 in
theorem ggX5_cost_X5_isGrade : GoodIn wsX5_cost wsX5_isGrade := goodIn_r _ [6, 7, 8, 9, 5, 10, 11, 12, 13, 14, 15, 16, 17, 18, 19, 20, 21, 22, 23, 24, 25, 26, 27, 28, 29, 30, 31, 32, 33, 34] (by decide +kernel) (by decide +kernel)
set_option maxRecDepth 20000 in
theorem gX5_cost_X5_isGrade : GoodIn wsX5_cost (wsV RX5 136 RX5 yX5_isGrade wsX5_isGrade) := goodIn_app (goodIn_of _ (by decide +kernel)) ggX5_cost_X5_isGrade
set_option maxRecDepth 20000 in
theorem ggX5_cost_X5_in : GoodIn wsX5_cost wsX5_in := goodIn_r _ [10] (by decide +kernel) (by decide +kernel)
set_option maxRecDepth 20000 in
theorem gX5_cost_X5_in : GoodIn wsX5_cost (va_wsS RX5 75 yX5_in wsX5_in) := goodIn_app (goodIn_of _ (by decide +kernel)) ggX5_cost_X5_in
theorem dX5_cost_0 : decode cX5_cost 0 = .ok (.aload_n 0, 1) := by decide +kernel
theorem dX5_cost_1 : decode cX5_cost 1 = .ok (.iload_n 1, 1) := by decide +kernel
theorem dX5_cost_2 : decode cX5_cost 2 = .ok (.invokevirtual 136, 3) := by decide +kernel
theorem dX5_cost_5 : decode cX5_cost 5 = .ok (.ifCond .eq 11, 3) := by decide +kernel
theorem dX5_cost_8 : decode cX5_cost 8 = .ok (.aload_n 0, 1) := by decide +kernel
theorem dX5_cost_9 : decode cX5_cost 9 = .ok (.iload_n 2, 1) := by decide +kernel
theorem dX5_cost_10 : decode cX5_cost 10 = .ok (.invokevirtual 136, 3) := by decide +kernel
theorem dX5_cost_13 : decode cX5_cost 13 = .ok (.ifCond .ne 5, 3) := by decide +kernel
theorem dX5_cost_16 : decode cX5_cost 16 = .ok (.iconst (-1), 1) := by decide +kernel
theorem dX5_cost_17 : decode cX5_cost 17 = .ok (.ireturn, 1) := by decide +kernel
theorem dX5_cost_18 : decode cX5_cost 18 = .ok (.iload_n 3, 1) := by decide +kernel
theorem dX5_cost_19 : decode cX5_cost 19 = .ok (.iconst 0, 1) := by decide +kernel
theorem dX5_cost_20 : decode cX5_cost 20 = .ok (.sipush 1000, 3) := by decide +kernel
theorem dX5_cost_23 : decode cX5_cost 23 = .ok (.invokestatic 75, 3) := by decide +kernel
theorem dX5_cost_26 : decode cX5_cost 26 = .ok (.ifCond .ne 6, 3) := by decide +kernel
theorem dX5_cost_29 : decode cX5_cost 29 = .ok (.bipush (-2), 2) := by decide +kernel
theorem dX5_cost_31 : decode cX5_cost 31 = .ok (.ireturn, 1) := by decide +kernel
theorem dX5_cost_32 : decode cX5_cost 32 = .ok (.iload_n 1, 1) := by decide +kernel
theorem dX5_cost_33 : decode cX5_cost 33 = .ok (.iload_n 2, 1) := by decide +kernel
theorem dX5_cost_34 : decode cX5_cost 34 = .ok (.if_icmp .ne 6, 3) := by decide +kernel
theorem dX5_cost_37 : decode cX5_cost 37 = .ok (.bipush (-5), 2) := by decide +kernel
theorem dX5_cost_39 : decode cX5_cost 39 = .ok (.ireturn, 1) := by decide +kernel
theorem dX5_cost_40 : decode cX5_cost 40 = .ok (.aload_n 0, 1) := by decide +kernel
theorem dX5_cost_41 : decode cX5_cost 41 = .ok (.getfield 57, 3) := by decide +kernel
theorem dX5_cost_44 : decode cX5_cost 44 = .ok (.bipush 9, 2) := by decide +kernel
theorem dX5_cost_46 : decode cX5_cost 46 = .ok (.iload_n 1, 1) := by decide +kernel
theorem dX5_cost_47 : decode cX5_cost 47 = .ok (.imul, 1) := by decide +kernel
theorem dX5_cost_48 : decode cX5_cost 48 = .ok (.iload_n 2, 1) := by decide +kernel
theorem dX5_cost_49 : decode cX5_cost 49 = .ok (.iadd, 1) := by decide +kernel
theorem dX5_cost_50 : decode cX5_cost 50 = .ok (.iaload, 1) := by decide +kernel
theorem dX5_cost_51 : decode cX5_cost 51 = .ok (.istore 4, 2) := by decide +kernel
theorem dX5_cost_53 : decode cX5_cost 53 = .ok (.aload_n 0, 1) := by decide +kernel
theorem dX5_cost_54 : decode cX5_cost 54 = .ok (.getfield 57, 3) := by decide +kernel
theorem dX5_cost_57 : decode cX5_cost 57 = .ok (.bipush 9, 2) := by decide +kernel
theorem dX5_cost_59 : decode cX5_cost 59 = .ok (.iload_n 1, 1) := by decide +kernel
theorem dX5_cost_60 : decode cX5_cost 60 = .ok (.imul, 1) := by decide +kernel
theorem dX5_cost_61 : decode cX5_cost 61 = .ok (.iload_n 2, 1) := by decide +kernel
theorem dX5_cost_62 : decode cX5_cost 62 = .ok (.iadd, 1) := by decide +kernel
theorem dX5_cost_63 : decode cX5_cost 63 = .ok (.iload_n 3, 1) := by decide +kernel
theorem dX5_cost_64 : decode cX5_cost 64 = .ok (.iastore, 1) := by decide +kernel
theorem dX5_cost_65 : decode cX5_cost 65 = .ok (.iload 4, 2) := by decide +kernel
theorem dX5_cost_67 : decode cX5_cost 67 = .ok (.ireturn, 1) := by decide +kernel
theorem dX5_layRest_0 : decode cX5_layRest 0 = .ok (.iconst 1, 1) := by decide +kernel
theorem dX5_layRest_1 : decode cX5_layRest 1 = .ok (.aload_n 0, 1) := by decide +kernel
theorem dX5_layRest_2 : decode cX5_layRest 2 = .ok (.getfield 133, 3) := by decide +kernel
theorem dX5_layRest_5 : decode cX5_layRest 5 = .ok (.ishl, 1) := by decide +kernel
theorem dX5_layRest_6 : decode cX5_layRest 6 = .ok (.iconst 1, 1) := by decide +kernel
theorem dX5_layRest_7 : decode cX5_layRest 7 = .ok (.isub, 1) := by decide +kernel
theorem dX5_layRest_8 : decode cX5_layRest 8 = .ok (.istore_n 1, 1) := by decide +kernel
theorem dX5_layRest_9 : decode cX5_layRest 9 = .ok (.iload_n 1, 1) := by decide +kernel
theorem dX5_layRest_10 : decode cX5_layRest 10 = .ok (.ifCond .le 140, 3) := by decide +kernel
theorem dX5_layRest_13 : decode cX5_layRest 13 = .ok (.iconst 0, 1) := by decide +kernel
theorem dX5_layRest_14 : decode cX5_layRest 14 = .ok (.istore_n 2, 1) := by decide +kernel
theorem dX5_layRest_15 : decode cX5_layRest 15 = .ok (.iload_n 2, 1) := by decide +kernel
theorem dX5_layRest_16 : decode cX5_layRest 16 = .ok (.aload_n 0, 1) := by decide +kernel
theorem dX5_layRest_17 : decode cX5_layRest 17 = .ok (.getfield 133, 3) := by decide +kernel
theorem dX5_layRest_20 : decode cX5_layRest 20 = .ok (.if_icmp .ge 124, 3) := by decide +kernel
theorem dX5_layRest_23 : decode cX5_layRest 23 = .ok (.iload_n 1, 1) := by decide +kernel
theorem dX5_layRest_24 : decode cX5_layRest 24 = .ok (.iconst 1, 1) := by decide +kernel
theorem dX5_layRest_25 : decode cX5_layRest 25 = .ok (.aload_n 0, 1) := by decide +kernel
theorem dX5_layRest_26 : decode cX5_layRest 26 = .ok (.getfield 133, 3) := by decide +kernel
theorem dX5_layRest_29 : decode cX5_layRest 29 = .ok (.ishl, 1) := by decide +kernel
theorem dX5_layRest_30 : decode cX5_layRest 30 = .ok (.iconst 1, 1) := by decide +kernel
theorem dX5_layRest_31 : decode cX5_layRest 31 = .ok (.isub, 1) := by decide +kernel
theorem dX5_layRest_32 : decode cX5_layRest 32 = .ok (.if_icmp .ne 7, 3) := by decide +kernel
theorem dX5_layRest_35 : decode cX5_layRest 35 = .ok (.iconst 0, 1) := by decide +kernel
theorem dX5_layRest_36 : decode cX5_layRest 36 = .ok (.goto 4, 3) := by decide +kernel
theorem dX5_layRest_39 : decode cX5_layRest 39 = .ok (.iconst (-1), 1) := by decide +kernel
theorem dX5_layRest_40 : decode cX5_layRest 40 = .ok (.istore_n 3, 1) := by decide +kernel
theorem dX5_layRest_41 : decode cX5_layRest 41 = .ok (.iconst 0, 1) := by decide +kernel
theorem dX5_layRest_42 : decode cX5_layRest 42 = .ok (.istore 4, 2) := by decide +kernel
theorem dX5_layRest_44 : decode cX5_layRest 44 = .ok (.iload 4, 2) := by decide +kernel
theorem dX5_layRest_46 : decode cX5_layRest 46 = .ok (.aload_n 0, 1) := by decide +kernel
theorem dX5_layRest_47 : decode cX5_layRest 47 = .ok (.getfield 133, 3) := by decide +kernel
theorem dX5_layRest_50 : decode cX5_layRest 50 = .ok (.if_icmp .ge 76, 3) := by decide +kernel
theorem dX5_layRest_53 : decode cX5_layRest 53 = .ok (.iload_n 1, 1) := by decide +kernel
theorem dX5_layRest_54 : decode cX5_layRest 54 = .ok (.iload 4, 2) := by decide +kernel
theorem dX5_layRest_56 : decode cX5_layRest 56 = .ok (.ishr, 1) := by decide +kernel
theorem dX5_layRest_57 : decode cX5_layRest 57 = .ok (.iconst 1, 1) := by decide +kernel
theorem dX5_layRest_58 : decode cX5_layRest 58 = .ok (.iand, 1) := by decide +kernel
theorem dX5_layRest_59 : decode cX5_layRest 59 = .ok (.ifCond .ne 36, 3) := by decide +kernel
theorem dX5_layRest_62 : decode cX5_layRest 62 = .ok (.aload_n 0, 1) := by decide +kernel
theorem dX5_layRest_63 : decode cX5_layRest 63 = .ok (.getfield 57, 3) := by decide +kernel
theorem dX5_layRest_66 : decode cX5_layRest 66 = .ok (.bipush 9, 2) := by decide +kernel
theorem dX5_layRest_68 : decode cX5_layRest 68 = .ok (.iload_n 2, 1) := by decide +kernel
theorem dX5_layRest_69 : decode cX5_layRest 69 = .ok (.imul, 1) := by decide +kernel
theorem dX5_layRest_70 : decode cX5_layRest 70 = .ok (.iload 4, 2) := by decide +kernel
theorem dX5_layRest_72 : decode cX5_layRest 72 = .ok (.iadd, 1) := by decide +kernel
theorem dX5_layRest_73 : decode cX5_layRest 73 = .ok (.iaload, 1) := by decide +kernel
theorem dX5_layRest_74 : decode cX5_layRest 74 = .ok (.aload_n 0, 1) := by decide +kernel
theorem dX5_layRest_75 : decode cX5_layRest 75 = .ok (.getfield 69, 3) := by decide +kernel
theorem dX5_layRest_78 : decode cX5_layRest 78 = .ok (.bipush 9, 2) := by decide +kernel
theorem dX5_layRest_80 : decode cX5_layRest 80 = .ok (.iload_n 1, 1) := by decide +kernel
theorem dX5_layRest_81 : decode cX5_layRest 81 = .ok (.iconst 1, 1) := by decide +kernel
theorem dX5_layRest_82 : decode cX5_layRest 82 = .ok (.iload 4, 2) := by decide +kernel
theorem dX5_layRest_84 : decode cX5_layRest 84 = .ok (.ishl, 1) := by decide +kernel
theorem dX5_layRest_85 : decode cX5_layRest 85 = .ok (.ior, 1) := by decide +kernel
theorem dX5_layRest_86 : decode cX5_layRest 86 = .ok (.imul, 1) := by decide +kernel
theorem dX5_layRest_87 : decode cX5_layRest 87 = .ok (.iload 4, 2) := by decide +kernel
theorem dX5_layRest_89 : decode cX5_layRest 89 = .ok (.iadd, 1) := by decide +kernel
theorem dX5_layRest_90 : decode cX5_layRest 90 = .ok (.iaload, 1) := by decide +kernel
theorem dX5_layRest_91 : decode cX5_layRest 91 = .ok (.iadd, 1) := by decide +kernel
theorem dX5_layRest_92 : decode cX5_layRest 92 = .ok (.goto 4, 3) := by decide +kernel
theorem dX5_layRest_95 : decode cX5_layRest 95 = .ok (.iconst (-1), 1) := by decide +kernel
theorem dX5_layRest_96 : decode cX5_layRest 96 = .ok (.istore 5, 2) := by decide +kernel
theorem dX5_layRest_98 : decode cX5_layRest 98 = .ok (.iload 5, 2) := by decide +kernel
theorem dX5_layRest_100 : decode cX5_layRest 100 = .ok (.ifCond .lt 18, 3) := by decide +kernel
theorem dX5_layRest_103 : decode cX5_layRest 103 = .ok (.iload_n 3, 1) := by decide +kernel
theorem dX5_layRest_104 : decode cX5_layRest 104 = .ok (.ifCond .lt 9, 3) := by decide +kernel
theorem dX5_layRest_107 : decode cX5_layRest 107 = .ok (.iload 5, 2) := by decide +kernel
theorem dX5_layRest_109 : decode cX5_layRest 109 = .ok (.iload_n 3, 1) := by decide +kernel
theorem dX5_layRest_110 : decode cX5_layRest 110 = .ok (.if_icmp .ge 8, 3) := by decide +kernel
theorem dX5_layRest_113 : decode cX5_layRest 113 = .ok (.iload 5, 2) := by decide +kernel
theorem dX5_layRest_115 : decode cX5_layRest 115 = .ok (.goto 4, 3) := by decide +kernel
theorem dX5_layRest_118 : decode cX5_layRest 118 = .ok (.iload_n 3, 1) := by decide +kernel
theorem dX5_layRest_119 : decode cX5_layRest 119 = .ok (.istore_n 3, 1) := by decide +kernel
theorem dX5_layRest_120 : decode cX5_layRest 120 = .ok (.iinc 4 1, 3) := by decide +kernel
theorem dX5_layRest_123 : decode cX5_layRest 123 = .ok (.goto (-79), 3) := by decide +kernel
theorem dX5_layRest_126 : decode cX5_layRest 126 = .ok (.aload_n 0, 1) := by decide +kernel
theorem dX5_layRest_127 : decode cX5_layRest 127 = .ok (.getfield 69, 3) := by decide +kernel
theorem dX5_layRest_130 : decode cX5_layRest 130 = .ok (.bipush 9, 2) := by decide +kernel
theorem dX5_layRest_132 : decode cX5_layRest 132 = .ok (.iload_n 1, 1) := by decide +kernel
theorem dX5_layRest_133 : decode cX5_layRest 133 = .ok (.imul, 1) := by decide +kernel
theorem dX5_layRest_134 : decode cX5_layRest 134 = .ok (.iload_n 2, 1) := by decide +kernel
theorem dX5_layRest_135 : decode cX5_layRest 135 = .ok (.iadd, 1) := by decide +kernel
theorem dX5_layRest_136 : decode cX5_layRest 136 = .ok (.iload_n 3, 1) := by decide +kernel
theorem dX5_layRest_137 : decode cX5_layRest 137 = .ok (.iastore, 1) := by decide +kernel
theorem dX5_layRest_138 : decode cX5_layRest 138 = .ok (.iinc 2 1, 3) := by decide +kernel
theorem dX5_layRest_141 : decode cX5_layRest 141 = .ok (.goto (-126), 3) := by decide +kernel
theorem dX5_layRest_144 : decode cX5_layRest 144 = .ok (.iinc 1 (-1), 3) := by decide +kernel
theorem dX5_layRest_147 : decode cX5_layRest 147 = .ok (.goto (-138), 3) := by decide +kernel
theorem dX5_layRest_150 : decode cX5_layRest 150 = .ok (.return_, 1) := by decide +kernel
set_option maxRecDepth 20000 in
theorem ggX5_tour_X5_isGrade : GoodIn wsX5_tour wsX5_isGrade := goodIn_r _ [6, 7, 8, 9, 5, 10, 16, 17, 18, 19, 20, 21, 22, 23, 24, 25, 26, 27, 28, 29, 30, 31, 32, 33, 34, 35, 36, 37, 38, 39] (by decide +kernel) (by decide +kernel)
set_option maxRecDepth 20000 in
theorem gX5_tour_X5_isGrade : GoodIn wsX5_tour (wsV RX5 136 RX5 yX5_isGrade wsX5_isGrade) := goodIn_app (goodIn_of _ (by decide +kernel)) ggX5_tour_X5_isGrade
set_option maxRecDepth 20000 in
theorem ggX5_tour_X5_layRest : GoodIn wsX5_tour wsX5_layRest := goodIn_r _ [14, 7, 15, 1, 16, 17, 18, 19, 20, 21, 22, 23, 24, 25, 26, 27, 28, 29, 30, 31, 32, 33, 34, 35, 36, 37, 38, 39] (by decide +kernel) (by decide +kernel)
set_option maxRecDepth 20000 in
theorem gX5_tour_X5_layRest : GoodIn wsX5_tour (wsV RX5 139 RX5 yX5_layRest wsX5_layRest) := goodIn_app (goodIn_of _ (by decide +kernel)) ggX5_tour_X5_layRest
theorem dX5_tour_0 : decode cX5_tour 0 = .ok (.aload_n 0, 1) := by decide +kernel
theorem dX5_tour_1 : decode cX5_tour 1 = .ok (.iload_n 1, 1) := by decide +kernel
theorem dX5_tour_2 : decode cX5_tour 2 = .ok (.invokevirtual 136, 3) := by decide +kernel
theorem dX5_tour_5 : decode cX5_tour 5 = .ok (.ifCond .ne 5, 3) := by decide +kernel
theorem dX5_tour_8 : decode cX5_tour 8 = .ok (.iconst (-1), 1) := by decide +kernel
theorem dX5_tour_9 : decode cX5_tour 9 = .ok (.ireturn, 1) := by decide +kernel
theorem dX5_tour_10 : decode cX5_tour 10 = .ok (.aload_n 0, 1) := by decide +kernel
theorem dX5_tour_11 : decode cX5_tour 11 = .ok (.invokevirtual 139, 3) := by decide +kernel
theorem dX5_tour_14 : decode cX5_tour 14 = .ok (.aload_n 0, 1) := by decide +kernel
theorem dX5_tour_15 : decode cX5_tour 15 = .ok (.getfield 69, 3) := by decide +kernel
theorem dX5_tour_18 : decode cX5_tour 18 = .ok (.bipush 9, 2) := by decide +kernel
theorem dX5_tour_20 : decode cX5_tour 20 = .ok (.iconst 1, 1) := by decide +kernel
theorem dX5_tour_21 : decode cX5_tour 21 = .ok (.iload_n 1, 1) := by decide +kernel
theorem dX5_tour_22 : decode cX5_tour 22 = .ok (.ishl, 1) := by decide +kernel
theorem dX5_tour_23 : decode cX5_tour 23 = .ok (.imul, 1) := by decide +kernel
theorem dX5_tour_24 : decode cX5_tour 24 = .ok (.iload_n 1, 1) := by decide +kernel
theorem dX5_tour_25 : decode cX5_tour 25 = .ok (.iadd, 1) := by decide +kernel
theorem dX5_tour_26 : decode cX5_tour 26 = .ok (.iaload, 1) := by decide +kernel
theorem dX5_tour_27 : decode cX5_tour 27 = .ok (.ireturn, 1) := by decide +kernel
set_option maxRecDepth 20000 in
theorem ggX5_tourAt_X5_isGrade : GoodIn wsX5_tourAt wsX5_isGrade := goodIn_r _ [8, 1, 9, 10, 7, 11, 16, 17, 18, 19, 20, 21, 22, 23, 24, 25, 26, 27, 28, 29, 30, 31, 32, 33, 34, 35, 36, 37, 38, 39] (by decide +kernel) (by decide +kernel)
set_option maxRecDepth 20000 in
theorem gX5_tourAt_X5_isGrade : GoodIn wsX5_tourAt (wsV RX5 136 RX5 yX5_isGrade wsX5_isGrade) := goodIn_app (goodIn_of _ (by decide +kernel)) ggX5_tourAt_X5_isGrade
set_option maxRecDepth 20000 in
theorem ggX5_tourAt_X5_in : GoodIn wsX5_tourAt wsX5_in := goodIn_r _ [11] (by decide +kernel) (by decide +kernel)
set_option maxRecDepth 20000 in
theorem gX5_tourAt_X5_in : GoodIn wsX5_tourAt (va_wsS RX5 75 yX5_in wsX5_in) := goodIn_app (goodIn_of _ (by decide +kernel)) ggX5_tourAt_X5_in
set_option maxRecDepth 20000 in
theorem ggX5_tourAt_X5_layRest : GoodIn wsX5_tourAt wsX5_layRest := goodIn_r _ [15, 1, 2, 3, 16, 17, 18, 19, 20, 21, 22, 23, 24, 25, 26, 27, 28, 29, 30, 31, 32, 33, 34, 35, 36, 37, 38, 39] (by decide +kernel) (by decide +kernel)
set_option maxRecDepth 20000 in
theorem gX5_tourAt_X5_layRest : GoodIn wsX5_tourAt (wsV RX5 139 RX5 yX5_layRest wsX5_layRest) := goodIn_app (goodIn_of _ (by decide +kernel)) ggX5_tourAt_X5_layRest
theorem dX5_tourAt_0 : decode cX5_tourAt 0 = .ok (.aload_n 0, 1) := by decide +kernel
theorem dX5_tourAt_1 : decode cX5_tourAt 1 = .ok (.iload_n 1, 1) := by decide +kernel
theorem dX5_tourAt_2 : decode cX5_tourAt 2 = .ok (.invokevirtual 136, 3) := by decide +kernel
theorem dX5_tourAt_5 : decode cX5_tourAt 5 = .ok (.ifCond .ne 5, 3) := by decide +kernel
theorem dX5_tourAt_8 : decode cX5_tourAt 8 = .ok (.iconst (-1), 1) := by decide +kernel
theorem dX5_tourAt_9 : decode cX5_tourAt 9 = .ok (.ireturn, 1) := by decide +kernel
theorem dX5_tourAt_10 : decode cX5_tourAt 10 = .ok (.iload_n 2, 1) := by decide +kernel
theorem dX5_tourAt_11 : decode cX5_tourAt 11 = .ok (.iconst 0, 1) := by decide +kernel
theorem dX5_tourAt_12 : decode cX5_tourAt 12 = .ok (.aload_n 0, 1) := by decide +kernel
theorem dX5_tourAt_13 : decode cX5_tourAt 13 = .ok (.getfield 133, 3) := by decide +kernel
theorem dX5_tourAt_16 : decode cX5_tourAt 16 = .ok (.iconst 1, 1) := by decide +kernel
theorem dX5_tourAt_17 : decode cX5_tourAt 17 = .ok (.isub, 1) := by decide +kernel
theorem dX5_tourAt_18 : decode cX5_tourAt 18 = .ok (.invokestatic 75, 3) := by decide +kernel
theorem dX5_tourAt_21 : decode cX5_tourAt 21 = .ok (.ifCond .ne 6, 3) := by decide +kernel
theorem dX5_tourAt_24 : decode cX5_tourAt 24 = .ok (.bipush (-6), 2) := by decide +kernel
theorem dX5_tourAt_26 : decode cX5_tourAt 26 = .ok (.ireturn, 1) := by decide +kernel
theorem dX5_tourAt_27 : decode cX5_tourAt 27 = .ok (.aload_n 0, 1) := by decide +kernel
theorem dX5_tourAt_28 : decode cX5_tourAt 28 = .ok (.invokevirtual 139, 3) := by decide +kernel
theorem dX5_tourAt_31 : decode cX5_tourAt 31 = .ok (.iconst 1, 1) := by decide +kernel
theorem dX5_tourAt_32 : decode cX5_tourAt 32 = .ok (.iload_n 1, 1) := by decide +kernel
theorem dX5_tourAt_33 : decode cX5_tourAt 33 = .ok (.ishl, 1) := by decide +kernel
theorem dX5_tourAt_34 : decode cX5_tourAt 34 = .ok (.istore_n 3, 1) := by decide +kernel
theorem dX5_tourAt_35 : decode cX5_tourAt 35 = .ok (.iload_n 1, 1) := by decide +kernel
theorem dX5_tourAt_36 : decode cX5_tourAt 36 = .ok (.istore 4, 2) := by decide +kernel
theorem dX5_tourAt_38 : decode cX5_tourAt 38 = .ok (.iconst 0, 1) := by decide +kernel
theorem dX5_tourAt_39 : decode cX5_tourAt 39 = .ok (.istore 5, 2) := by decide +kernel
theorem dX5_tourAt_41 : decode cX5_tourAt 41 = .ok (.iload 5, 2) := by decide +kernel
theorem dX5_tourAt_43 : decode cX5_tourAt 43 = .ok (.iload_n 2, 1) := by decide +kernel
theorem dX5_tourAt_44 : decode cX5_tourAt 44 = .ok (.if_icmp .ge 85, 3) := by decide +kernel
theorem dX5_tourAt_47 : decode cX5_tourAt 47 = .ok (.iconst 0, 1) := by decide +kernel
theorem dX5_tourAt_48 : decode cX5_tourAt 48 = .ok (.istore 6, 2) := by decide +kernel
theorem dX5_tourAt_50 : decode cX5_tourAt 50 = .ok (.iload_n 3, 1) := by decide +kernel
theorem dX5_tourAt_51 : decode cX5_tourAt 51 = .ok (.iload 6, 2) := by decide +kernel
theorem dX5_tourAt_53 : decode cX5_tourAt 53 = .ok (.ishr, 1) := by decide +kernel
theorem dX5_tourAt_54 : decode cX5_tourAt 54 = .ok (.iconst 1, 1) := by decide +kernel
theorem dX5_tourAt_55 : decode cX5_tourAt 55 = .ok (.iand, 1) := by decide +kernel
theorem dX5_tourAt_56 : decode cX5_tourAt 56 = .ok (.iconst 1, 1) := by decide +kernel
theorem dX5_tourAt_57 : decode cX5_tourAt 57 = .ok (.if_icmp .eq 49, 3) := by decide +kernel
theorem dX5_tourAt_60 : decode cX5_tourAt 60 = .ok (.aload_n 0, 1) := by decide +kernel
theorem dX5_tourAt_61 : decode cX5_tourAt 61 = .ok (.getfield 57, 3) := by decide +kernel
theorem dX5_tourAt_64 : decode cX5_tourAt 64 = .ok (.bipush 9, 2) := by decide +kernel
theorem dX5_tourAt_66 : decode cX5_tourAt 66 = .ok (.iload 4, 2) := by decide +kernel
theorem dX5_tourAt_68 : decode cX5_tourAt 68 = .ok (.imul, 1) := by decide +kernel
theorem dX5_tourAt_69 : decode cX5_tourAt 69 = .ok (.iload 6, 2) := by decide +kernel
theorem dX5_tourAt_71 : decode cX5_tourAt 71 = .ok (.iadd, 1) := by decide +kernel
theorem dX5_tourAt_72 : decode cX5_tourAt 72 = .ok (.iaload, 1) := by decide +kernel
theorem dX5_tourAt_73 : decode cX5_tourAt 73 = .ok (.aload_n 0, 1) := by decide +kernel
theorem dX5_tourAt_74 : decode cX5_tourAt 74 = .ok (.getfield 69, 3) := by decide +kernel
theorem dX5_tourAt_77 : decode cX5_tourAt 77 = .ok (.bipush 9, 2) := by decide +kernel
theorem dX5_tourAt_79 : decode cX5_tourAt 79 = .ok (.iload_n 3, 1) := by decide +kernel
theorem dX5_tourAt_80 : decode cX5_tourAt 80 = .ok (.iconst 1, 1) := by decide +kernel
theorem dX5_tourAt_81 : decode cX5_tourAt 81 = .ok (.iload 6, 2) := by decide +kernel
theorem dX5_tourAt_83 : decode cX5_tourAt 83 = .ok (.ishl, 1) := by decide +kernel
theorem dX5_tourAt_84 : decode cX5_tourAt 84 = .ok (.ior, 1) := by decide +kernel
theorem dX5_tourAt_85 : decode cX5_tourAt 85 = .ok (.imul, 1) := by decide +kernel
theorem dX5_tourAt_86 : decode cX5_tourAt 86 = .ok (.iload 6, 2) := by decide +kernel
theorem dX5_tourAt_88 : decode cX5_tourAt 88 = .ok (.iadd, 1) := by decide +kernel
theorem dX5_tourAt_89 : decode cX5_tourAt 89 = .ok (.iaload, 1) := by decide +kernel
theorem dX5_tourAt_90 : decode cX5_tourAt 90 = .ok (.iadd, 1) := by decide +kernel
theorem dX5_tourAt_91 : decode cX5_tourAt 91 = .ok (.aload_n 0, 1) := by decide +kernel
theorem dX5_tourAt_92 : decode cX5_tourAt 92 = .ok (.getfield 69, 3) := by decide +kernel
theorem dX5_tourAt_95 : decode cX5_tourAt 95 = .ok (.bipush 9, 2) := by decide +kernel
theorem dX5_tourAt_97 : decode cX5_tourAt 97 = .ok (.iload_n 3, 1) := by decide +kernel
theorem dX5_tourAt_98 : decode cX5_tourAt 98 = .ok (.imul, 1) := by decide +kernel
theorem dX5_tourAt_99 : decode cX5_tourAt 99 = .ok (.iload 4, 2) := by decide +kernel
theorem dX5_tourAt_101 : decode cX5_tourAt 101 = .ok (.iadd, 1) := by decide +kernel
theorem dX5_tourAt_102 : decode cX5_tourAt 102 = .ok (.iaload, 1) := by decide +kernel
theorem dX5_tourAt_103 : decode cX5_tourAt 103 = .ok (.if_icmp .eq 9, 3) := by decide +kernel
theorem dX5_tourAt_106 : decode cX5_tourAt 106 = .ok (.iinc 6 1, 3) := by decide +kernel
theorem dX5_tourAt_109 : decode cX5_tourAt 109 = .ok (.goto (-59), 3) := by decide +kernel
theorem dX5_tourAt_112 : decode cX5_tourAt 112 = .ok (.iload_n 3, 1) := by decide +kernel
theorem dX5_tourAt_113 : decode cX5_tourAt 113 = .ok (.iconst 1, 1) := by decide +kernel
theorem dX5_tourAt_114 : decode cX5_tourAt 114 = .ok (.iload 6, 2) := by decide +kernel
theorem dX5_tourAt_116 : decode cX5_tourAt 116 = .ok (.ishl, 1) := by decide +kernel
theorem dX5_tourAt_117 : decode cX5_tourAt 117 = .ok (.ior, 1) := by decide +kernel
theorem dX5_tourAt_118 : decode cX5_tourAt 118 = .ok (.istore_n 3, 1) := by decide +kernel
theorem dX5_tourAt_119 : decode cX5_tourAt 119 = .ok (.iload 6, 2) := by decide +kernel
theorem dX5_tourAt_121 : decode cX5_tourAt 121 = .ok (.istore 4, 2) := by decide +kernel
theorem dX5_tourAt_123 : decode cX5_tourAt 123 = .ok (.iinc 5 1, 3) := by decide +kernel
theorem dX5_tourAt_126 : decode cX5_tourAt 126 = .ok (.goto (-85), 3) := by decide +kernel
theorem dX5_tourAt_129 : decode cX5_tourAt 129 = .ok (.iload 4, 2) := by decide +kernel
theorem dX5_tourAt_131 : decode cX5_tourAt 131 = .ok (.ireturn, 1) := by decide +kernel
theorem dX5_fitting_0 : decode cX5_fitting 0 = .ok (.iconst 0, 1) := by decide +kernel
theorem dX5_fitting_1 : decode cX5_fitting 1 = .ok (.istore_n 1, 1) := by decide +kernel
theorem dX5_fitting_2 : decode cX5_fitting 2 = .ok (.iconst 0, 1) := by decide +kernel
theorem dX5_fitting_3 : decode cX5_fitting 3 = .ok (.istore_n 2, 1) := by decide +kernel
theorem dX5_fitting_4 : decode cX5_fitting 4 = .ok (.iload_n 2, 1) := by decide +kernel
theorem dX5_fitting_5 : decode cX5_fitting 5 = .ok (.aload_n 0, 1) := by decide +kernel
theorem dX5_fitting_6 : decode cX5_fitting 6 = .ok (.getfield 79, 3) := by decide +kernel
theorem dX5_fitting_9 : decode cX5_fitting 9 = .ok (.if_icmp .ge 26, 3) := by decide +kernel
theorem dX5_fitting_12 : decode cX5_fitting 12 = .ok (.iload_n 1, 1) := by decide +kernel
theorem dX5_fitting_13 : decode cX5_fitting 13 = .ok (.aload_n 0, 1) := by decide +kernel
theorem dX5_fitting_14 : decode cX5_fitting 14 = .ok (.getfield 23, 3) := by decide +kernel
theorem dX5_fitting_17 : decode cX5_fitting 17 = .ok (.iload_n 2, 1) := by decide +kernel
theorem dX5_fitting_18 : decode cX5_fitting 18 = .ok (.baload, 1) := by decide +kernel
theorem dX5_fitting_19 : decode cX5_fitting 19 = .ok (.ifCond .eq 7, 3) := by decide +kernel
theorem dX5_fitting_22 : decode cX5_fitting 22 = .ok (.iconst 1, 1) := by decide +kernel
theorem dX5_fitting_23 : decode cX5_fitting 23 = .ok (.goto 4, 3) := by decide +kernel
theorem dX5_fitting_26 : decode cX5_fitting 26 = .ok (.iconst 0, 1) := by decide +kernel
theorem dX5_fitting_27 : decode cX5_fitting 27 = .ok (.iadd, 1) := by decide +kernel
theorem dX5_fitting_28 : decode cX5_fitting 28 = .ok (.istore_n 1, 1) := by decide +kernel
theorem dX5_fitting_29 : decode cX5_fitting 29 = .ok (.iinc 2 1, 3) := by decide +kernel
theorem dX5_fitting_32 : decode cX5_fitting 32 = .ok (.goto (-28), 3) := by decide +kernel
theorem dX5_fitting_35 : decode cX5_fitting 35 = .ok (.iload_n 1, 1) := by decide +kernel
theorem dX5_fitting_36 : decode cX5_fitting 36 = .ok (.ireturn, 1) := by decide +kernel
set_option maxRecDepth 20000 in
theorem ggX5_told_X5_fitting : GoodIn wsX5_told wsX5_fitting := goodIn_r _ [13, 2, 14, 15, 16, 17, 18, 19, 20, 21, 22, 23, 24, 25, 26, 27, 28, 29, 30, 31, 32, 33, 34, 35, 36, 37, 38] (by decide +kernel) (by decide +kernel)
set_option maxRecDepth 20000 in
theorem gX5_told_X5_fitting : GoodIn wsX5_told (wsV RX5 142 RX5 yX5_fitting wsX5_fitting) := goodIn_app (goodIn_of _ (by decide +kernel)) ggX5_told_X5_fitting
theorem dX5_told_0 : decode cX5_told 0 = .ok (.iload_n 1, 1) := by decide +kernel
theorem dX5_told_1 : decode cX5_told 1 = .ok (.tableswitch 96 0 8 #[51, 56, 61, 66, 71, 76, 81, 86, 91], 51) := by decide +kernel
theorem dX5_told_52 : decode cX5_told 52 = .ok (.aload_n 0, 1) := by decide +kernel
theorem dX5_told_53 : decode cX5_told 53 = .ok (.getfield 7, 3) := by decide +kernel
theorem dX5_told_56 : decode cX5_told 56 = .ok (.ireturn, 1) := by decide +kernel
theorem dX5_told_57 : decode cX5_told 57 = .ok (.aload_n 0, 1) := by decide +kernel
theorem dX5_told_58 : decode cX5_told 58 = .ok (.getfield 79, 3) := by decide +kernel
theorem dX5_told_61 : decode cX5_told 61 = .ok (.ireturn, 1) := by decide +kernel
theorem dX5_told_62 : decode cX5_told 62 = .ok (.aload_n 0, 1) := by decide +kernel
theorem dX5_told_63 : decode cX5_told 63 = .ok (.invokevirtual 142, 3) := by decide +kernel
theorem dX5_told_66 : decode cX5_told 66 = .ok (.ireturn, 1) := by decide +kernel
theorem dX5_told_67 : decode cX5_told 67 = .ok (.aload_n 0, 1) := by decide +kernel
theorem dX5_told_68 : decode cX5_told 68 = .ok (.getfield 82, 3) := by decide +kernel
theorem dX5_told_71 : decode cX5_told 71 = .ok (.ireturn, 1) := by decide +kernel
theorem dX5_told_72 : decode cX5_told 72 = .ok (.aload_n 0, 1) := by decide +kernel
theorem dX5_told_73 : decode cX5_told 73 = .ok (.getfield 133, 3) := by decide +kernel
theorem dX5_told_76 : decode cX5_told 76 = .ok (.ireturn, 1) := by decide +kernel
theorem dX5_told_77 : decode cX5_told 77 = .ok (.aload_n 0, 1) := by decide +kernel
theorem dX5_told_78 : decode cX5_told 78 = .ok (.getfield 39, 3) := by decide +kernel
theorem dX5_told_81 : decode cX5_told 81 = .ok (.ireturn, 1) := by decide +kernel
theorem dX5_told_82 : decode cX5_told 82 = .ok (.aload_n 0, 1) := by decide +kernel
theorem dX5_told_83 : decode cX5_told 83 = .ok (.getfield 42, 3) := by decide +kernel
theorem dX5_told_86 : decode cX5_told 86 = .ok (.ireturn, 1) := by decide +kernel
theorem dX5_told_87 : decode cX5_told 87 = .ok (.aload_n 0, 1) := by decide +kernel
theorem dX5_told_88 : decode cX5_told 88 = .ok (.getfield 45, 3) := by decide +kernel
theorem dX5_told_91 : decode cX5_told 91 = .ok (.ireturn, 1) := by decide +kernel
theorem dX5_told_92 : decode cX5_told 92 = .ok (.aload_n 0, 1) := by decide +kernel
theorem dX5_told_93 : decode cX5_told 93 = .ok (.getfield 106, 3) := by decide +kernel
theorem dX5_told_96 : decode cX5_told 96 = .ok (.ireturn, 1) := by decide +kernel
theorem dX5_told_97 : decode cX5_told 97 = .ok (.sipush (-1002), 3) := by decide +kernel
theorem dX5_told_100 : decode cX5_told 100 = .ok (.ireturn, 1) := by decide +kernel
end
section
theorem dJ9_abs_0f7a4_0 : decode cJ9_abs_0f7a4 0 = .ok (.iload_n 0, 1) := by decide +kernel
theorem dJ9_abs_0f7a4_1 : decode cJ9_abs_0f7a4 1 = .ok (.ifCond .ge 8, 3) := by decide +kernel
theorem dJ9_abs_0f7a4_4 : decode cJ9_abs_0f7a4 4 = .ok (.iload_n 0, 1) := by decide +kernel
theorem dJ9_abs_0f7a4_5 : decode cJ9_abs_0f7a4 5 = .ok (.ineg, 1) := by decide +kernel
theorem dJ9_abs_0f7a4_6 : decode cJ9_abs_0f7a4 6 = .ok (.goto 4, 3) := by decide +kernel
theorem dJ9_abs_0f7a4_9 : decode cJ9_abs_0f7a4 9 = .ok (.iload_n 0, 1) := by decide +kernel
theorem dJ9_abs_0f7a4_10 : decode cJ9_abs_0f7a4 10 = .ok (.ireturn, 1) := by decide +kernel
theorem dJ9_max_7cf53_0 : decode cJ9_max_7cf53 0 = .ok (.iload_n 0, 1) := by decide +kernel
theorem dJ9_max_7cf53_1 : decode cJ9_max_7cf53 1 = .ok (.iload_n 1, 1) := by decide +kernel
theorem dJ9_max_7cf53_2 : decode cJ9_max_7cf53 2 = .ok (.if_icmp .lt 7, 3) := by decide +kernel
theorem dJ9_max_7cf53_5 : decode cJ9_max_7cf53 5 = .ok (.iload_n 0, 1) := by decide +kernel
theorem dJ9_max_7cf53_6 : decode cJ9_max_7cf53 6 = .ok (.goto 4, 3) := by decide +kernel
theorem dJ9_max_7cf53_9 : decode cJ9_max_7cf53 9 = .ok (.iload_n 1, 1) := by decide +kernel
theorem dJ9_max_7cf53_10 : decode cJ9_max_7cf53 10 = .ok (.ireturn, 1) := by decide +kernel
theorem dJ9_min_7cf53_0 : decode cJ9_min_7cf53 0 = .ok (.iload_n 0, 1) := by decide +kernel
theorem dJ9_min_7cf53_1 : decode cJ9_min_7cf53 1 = .ok (.iload_n 1, 1) := by decide +kernel
theorem dJ9_min_7cf53_2 : decode cJ9_min_7cf53 2 = .ok (.if_icmp .gt 7, 3) := by decide +kernel
theorem dJ9_min_7cf53_5 : decode cJ9_min_7cf53 5 = .ok (.iload_n 0, 1) := by decide +kernel
theorem dJ9_min_7cf53_6 : decode cJ9_min_7cf53 6 = .ok (.goto 4, 3) := by decide +kernel
theorem dJ9_min_7cf53_9 : decode cJ9_min_7cf53 9 = .ok (.iload_n 1, 1) := by decide +kernel
theorem dJ9_min_7cf53_10 : decode cJ9_min_7cf53 10 = .ok (.ireturn, 1) := by decide +kernel
theorem dJ7_fill_53178_0 : decode cJ7_fill_53178 0 = .ok (.iconst 0, 1) := by decide +kernel
theorem dJ7_fill_53178_1 : decode cJ7_fill_53178 1 = .ok (.istore_n 2, 1) := by decide +kernel
theorem dJ7_fill_53178_2 : decode cJ7_fill_53178 2 = .ok (.aload_n 0, 1) := by decide +kernel
theorem dJ7_fill_53178_3 : decode cJ7_fill_53178 3 = .ok (.arraylength, 1) := by decide +kernel
theorem dJ7_fill_53178_4 : decode cJ7_fill_53178 4 = .ok (.istore_n 3, 1) := by decide +kernel
theorem dJ7_fill_53178_5 : decode cJ7_fill_53178 5 = .ok (.iload_n 2, 1) := by decide +kernel
theorem dJ7_fill_53178_6 : decode cJ7_fill_53178 6 = .ok (.iload_n 3, 1) := by decide +kernel
theorem dJ7_fill_53178_7 : decode cJ7_fill_53178 7 = .ok (.if_icmp .ge 13, 3) := by decide +kernel
theorem dJ7_fill_53178_10 : decode cJ7_fill_53178 10 = .ok (.aload_n 0, 1) := by decide +kernel
theorem dJ7_fill_53178_11 : decode cJ7_fill_53178 11 = .ok (.iload_n 2, 1) := by decide +kernel
theorem dJ7_fill_53178_12 : decode cJ7_fill_53178 12 = .ok (.iload_n 1, 1) := by decide +kernel
theorem dJ7_fill_53178_13 : decode cJ7_fill_53178 13 = .ok (.iastore, 1) := by decide +kernel
theorem dJ7_fill_53178_14 : decode cJ7_fill_53178 14 = .ok (.iinc 2 1, 3) := by decide +kernel
theorem dJ7_fill_53178_17 : decode cJ7_fill_53178 17 = .ok (.goto (-12), 3) := by decide +kernel
theorem dJ7_fill_53178_20 : decode cJ7_fill_53178 20 = .ok (.return_, 1) := by decide +kernel
end
section
/-! ===== the layer J: canonical numbers, returns, calls by arity, switches; the world's shape ===== -/
def nrm (x : Int) : Int := (i3 x).toInt
theorem nrm_R (x : Int) : aR (nrm x) := aR_of _
theorem nrm_i (x : Int) : i3 (nrm x) = i3 x := i3_of _
theorem nrm_e {x : Int} (h : aR x) : nrm x = x := i3_toInt h
theorem i3_ext {x y : Int} (h : i3 x = i3 y) : nrm x = nrm y := congrArg Int32.toInt h
section JMore
variable {own : String} {cc : ByteArray} {nL : Nat} {Ts : List Cond} {R : Room} {K : KT} {J : JT} {q : Nat → Nat} {Sh : List AC} {ce sl pc : Nat} {L : AL} {st : List AV} {g : AG}
theorem j_eqv (C : JR own cc nL Ts R K J) {x y : Int} (h : i3 x = i3 y) (k : J q Sh ce sl pc L (.inl y :: st) g) : J q Sh ce sl pc L (.inl x :: st) g := by
  obtain ⟨p, l, e, s, m, args, below, meth, c, A, D, cI, cB, Q, rfl, hx, hb, hml, hown, hts, hK, hA, hret⟩ := C
  intro hw H locs ls hl hP hD hS
  have h9 := k hw H locs ls hl hP hD hS
  have e9 : (Sum.inl x :: st : List AV).map (a_v q) = (Sum.inl y :: st : List AV).map (a_v q) := by
    simp only [List.map_cons, a_v, h]
  rw [e9]
  exact h9
theorem j_nrm (C : JR own cc nL Ts R K J) {x : Int} (k : J q Sh ce sl pc L (.inl (nrm x) :: st) g) : J q Sh ce sl pc L (.inl x :: st) g := j_eqv C (nrm_i x).symm k
theorem j_iretI {K0 : Int → AG → Prop} {bo : Bool} (C : JR own cc nL Ts R (kI bo q Sh K0) J) {x : Int} (hd : decode cc pc = .ok (.ireturn, 1)) (hB : bo = true → x = 0 ∨ x = 1) (k : aW g → K0 x g) : J q Sh 0 0 pc L [.inl x] g := j_iret C hd (fun hw => ⟨rfl, rfl, rfl, rfl, x, rfl, hB, k hw⟩)
theorem j_vretV {K0 : AG → Prop} (C : JR own cc nL Ts R (kV q Sh K0) J) (hd : decode cc pc = .ok (.return_, 1)) (k : aW g → K0 g) : J q Sh 0 0 pc L [] g := j_vret C hd (fun hw => ⟨rfl, rfl, rfl, rfl, rfl, k hw⟩)
theorem j_cast {L' : AL} {st' : List AV} {g' : AG} (h : J q Sh ce sl pc L' st' g') (hL : L' = L) (hs : st' = st) (hg : g' = g) : J q Sh ce sl pc L st g := hL ▸ hs ▸ hg ▸ h
variable {idx ci k0 : Nat} {y : MethodName} {ws : List Cond} {rm : Room} {fs : List AF}
theorem j_callVi0 {K0 : Int → AG → Prop} (C : JR own cc nL Ts R K J) (B : aCV Ts R own idx ci y ws rm 0) (hs : Sh[k0]? = some (.inl (ci, fs))) (hL : L.length = nL) (hst : st.length ≤ 8) (hr : ce ≤ R.cells ∧ sl ≤ R.slots) (hd : decode cc pc = .ok (.invokevirtual idx, 3)) (hM : MetI y ws rm Sh [.inr k0] g K0) (kk : (∀ (x : Int) (g' : AG), K0 x g' → J q Sh ce sl (pc + 3) L (.inl x :: st) g')) : J q Sh ce sl pc L (.inr k0 :: st) g := j_callVi (as := []) C B hs rfl hL hst hr hd hM kk
theorem j_callVi1 {K0 : Int → AG → Prop} {a0 : AV} (C : JR own cc nL Ts R K J) (B : aCV Ts R own idx ci y ws rm 1) (hs : Sh[k0]? = some (.inl (ci, fs))) (hL : L.length = nL) (hst : st.length ≤ 8) (hr : ce ≤ R.cells ∧ sl ≤ R.slots) (hd : decode cc pc = .ok (.invokevirtual idx, 3)) (hM : MetI y ws rm Sh [.inr k0, a0] g K0) (kk : (∀ (x : Int) (g' : AG), K0 x g' → J q Sh ce sl (pc + 3) L (.inl x :: st) g')) : J q Sh ce sl pc L (a0 :: .inr k0 :: st) g := j_callVi (as := [a0]) C B hs rfl hL hst hr hd hM kk
theorem j_callVi2 {K0 : Int → AG → Prop} {a0 a1 : AV} (C : JR own cc nL Ts R K J) (B : aCV Ts R own idx ci y ws rm 2) (hs : Sh[k0]? = some (.inl (ci, fs))) (hL : L.length = nL) (hst : st.length ≤ 8) (hr : ce ≤ R.cells ∧ sl ≤ R.slots) (hd : decode cc pc = .ok (.invokevirtual idx, 3)) (hM : MetI y ws rm Sh [.inr k0, a0, a1] g K0) (kk : (∀ (x : Int) (g' : AG), K0 x g' → J q Sh ce sl (pc + 3) L (.inl x :: st) g')) : J q Sh ce sl pc L (a1 :: a0 :: .inr k0 :: st) g := j_callVi (as := [a0, a1]) C B hs rfl hL hst hr hd hM kk
theorem j_callVi3 {K0 : Int → AG → Prop} {a0 a1 a2 : AV} (C : JR own cc nL Ts R K J) (B : aCV Ts R own idx ci y ws rm 3) (hs : Sh[k0]? = some (.inl (ci, fs))) (hL : L.length = nL) (hst : st.length ≤ 8) (hr : ce ≤ R.cells ∧ sl ≤ R.slots) (hd : decode cc pc = .ok (.invokevirtual idx, 3)) (hM : MetI y ws rm Sh [.inr k0, a0, a1, a2] g K0) (kk : (∀ (x : Int) (g' : AG), K0 x g' → J q Sh ce sl (pc + 3) L (.inl x :: st) g')) : J q Sh ce sl pc L (a2 :: a1 :: a0 :: .inr k0 :: st) g := j_callVi (as := [a0, a1, a2]) C B hs rfl hL hst hr hd hM kk
theorem j_callVi4 {K0 : Int → AG → Prop} {a0 a1 a2 a3 : AV} (C : JR own cc nL Ts R K J) (B : aCV Ts R own idx ci y ws rm 4) (hs : Sh[k0]? = some (.inl (ci, fs))) (hL : L.length = nL) (hst : st.length ≤ 8) (hr : ce ≤ R.cells ∧ sl ≤ R.slots) (hd : decode cc pc = .ok (.invokevirtual idx, 3)) (hM : MetI y ws rm Sh [.inr k0, a0, a1, a2, a3] g K0) (kk : (∀ (x : Int) (g' : AG), K0 x g' → J q Sh ce sl (pc + 3) L (.inl x :: st) g')) : J q Sh ce sl pc L (a3 :: a2 :: a1 :: a0 :: .inr k0 :: st) g := j_callVi (as := [a0, a1, a2, a3]) C B hs rfl hL hst hr hd hM kk
theorem j_callVi5 {K0 : Int → AG → Prop} {a0 a1 a2 a3 a4 : AV} (C : JR own cc nL Ts R K J) (B : aCV Ts R own idx ci y ws rm 5) (hs : Sh[k0]? = some (.inl (ci, fs))) (hL : L.length = nL) (hst : st.length ≤ 8) (hr : ce ≤ R.cells ∧ sl ≤ R.slots) (hd : decode cc pc = .ok (.invokevirtual idx, 3)) (hM : MetI y ws rm Sh [.inr k0, a0, a1, a2, a3, a4] g K0) (kk : (∀ (x : Int) (g' : AG), K0 x g' → J q Sh ce sl (pc + 3) L (.inl x :: st) g')) : J q Sh ce sl pc L (a4 :: a3 :: a2 :: a1 :: a0 :: .inr k0 :: st) g := j_callVi (as := [a0, a1, a2, a3, a4]) C B hs rfl hL hst hr hd hM kk
theorem j_callVv0 {K0 : AG → Prop} (C : JR own cc nL Ts R K J) (B : aCV Ts R own idx ci y ws rm 0) (hs : Sh[k0]? = some (.inl (ci, fs))) (hL : L.length = nL) (hst : st.length ≤ 8) (hr : ce ≤ R.cells ∧ sl ≤ R.slots) (hd : decode cc pc = .ok (.invokevirtual idx, 3)) (hM : MetV y ws rm Sh [.inr k0] g K0) (kk : (∀ (g' : AG), K0 g' → J q Sh ce sl (pc + 3) L st g')) : J q Sh ce sl pc L (.inr k0 :: st) g := j_callVv (as := []) C B hs rfl hL hst hr hd hM kk
theorem j_callVv1 {K0 : AG → Prop} {a0 : AV} (C : JR own cc nL Ts R K J) (B : aCV Ts R own idx ci y ws rm 1) (hs : Sh[k0]? = some (.inl (ci, fs))) (hL : L.length = nL) (hst : st.length ≤ 8) (hr : ce ≤ R.cells ∧ sl ≤ R.slots) (hd : decode cc pc = .ok (.invokevirtual idx, 3)) (hM : MetV y ws rm Sh [.inr k0, a0] g K0) (kk : (∀ (g' : AG), K0 g' → J q Sh ce sl (pc + 3) L st g')) : J q Sh ce sl pc L (a0 :: .inr k0 :: st) g := j_callVv (as := [a0]) C B hs rfl hL hst hr hd hM kk
theorem j_callVv2 {K0 : AG → Prop} {a0 a1 : AV} (C : JR own cc nL Ts R K J) (B : aCV Ts R own idx ci y ws rm 2) (hs : Sh[k0]? = some (.inl (ci, fs))) (hL : L.length = nL) (hst : st.length ≤ 8) (hr : ce ≤ R.cells ∧ sl ≤ R.slots) (hd : decode cc pc = .ok (.invokevirtual idx, 3)) (hM : MetV y ws rm Sh [.inr k0, a0, a1] g K0) (kk : (∀ (g' : AG), K0 g' → J q Sh ce sl (pc + 3) L st g')) : J q Sh ce sl pc L (a1 :: a0 :: .inr k0 :: st) g := j_callVv (as := [a0, a1]) C B hs rfl hL hst hr hd hM kk
theorem j_callVv3 {K0 : AG → Prop} {a0 a1 a2 : AV} (C : JR own cc nL Ts R K J) (B : aCV Ts R own idx ci y ws rm 3) (hs : Sh[k0]? = some (.inl (ci, fs))) (hL : L.length = nL) (hst : st.length ≤ 8) (hr : ce ≤ R.cells ∧ sl ≤ R.slots) (hd : decode cc pc = .ok (.invokevirtual idx, 3)) (hM : MetV y ws rm Sh [.inr k0, a0, a1, a2] g K0) (kk : (∀ (g' : AG), K0 g' → J q Sh ce sl (pc + 3) L st g')) : J q Sh ce sl pc L (a2 :: a1 :: a0 :: .inr k0 :: st) g := j_callVv (as := [a0, a1, a2]) C B hs rfl hL hst hr hd hM kk
theorem j_callVv4 {K0 : AG → Prop} {a0 a1 a2 a3 : AV} (C : JR own cc nL Ts R K J) (B : aCV Ts R own idx ci y ws rm 4) (hs : Sh[k0]? = some (.inl (ci, fs))) (hL : L.length = nL) (hst : st.length ≤ 8) (hr : ce ≤ R.cells ∧ sl ≤ R.slots) (hd : decode cc pc = .ok (.invokevirtual idx, 3)) (hM : MetV y ws rm Sh [.inr k0, a0, a1, a2, a3] g K0) (kk : (∀ (g' : AG), K0 g' → J q Sh ce sl (pc + 3) L st g')) : J q Sh ce sl pc L (a3 :: a2 :: a1 :: a0 :: .inr k0 :: st) g := j_callVv (as := [a0, a1, a2, a3]) C B hs rfl hL hst hr hd hM kk
theorem j_callVv5 {K0 : AG → Prop} {a0 a1 a2 a3 a4 : AV} (C : JR own cc nL Ts R K J) (B : aCV Ts R own idx ci y ws rm 5) (hs : Sh[k0]? = some (.inl (ci, fs))) (hL : L.length = nL) (hst : st.length ≤ 8) (hr : ce ≤ R.cells ∧ sl ≤ R.slots) (hd : decode cc pc = .ok (.invokevirtual idx, 3)) (hM : MetV y ws rm Sh [.inr k0, a0, a1, a2, a3, a4] g K0) (kk : (∀ (g' : AG), K0 g' → J q Sh ce sl (pc + 3) L st g')) : J q Sh ce sl pc L (a4 :: a3 :: a2 :: a1 :: a0 :: .inr k0 :: st) g := j_callVv (as := [a0, a1, a2, a3, a4]) C B hs rfl hL hst hr hd hM kk
theorem j_callSi0 {K0 : Int → AG → Prop} (C : JR own cc nL Ts R K J) (B : aCS Ts R own idx y ws rm 0) (hL : L.length = nL) (hst : st.length ≤ 8) (hr : ce ≤ R.cells ∧ sl ≤ R.slots) (hd : decode cc pc = .ok (.invokestatic idx, 3)) (hM : MetI y ws rm Sh [] g K0) (kk : (∀ (x : Int) (g' : AG), K0 x g' → J q Sh ce sl (pc + 3) L (.inl x :: st) g')) : J q Sh ce sl pc L (st) g := j_callSi (as := []) C B rfl hL hst hr hd hM kk
theorem j_callSi1 {K0 : Int → AG → Prop} {a0 : AV} (C : JR own cc nL Ts R K J) (B : aCS Ts R own idx y ws rm 1) (hL : L.length = nL) (hst : st.length ≤ 8) (hr : ce ≤ R.cells ∧ sl ≤ R.slots) (hd : decode cc pc = .ok (.invokestatic idx, 3)) (hM : MetI y ws rm Sh [a0] g K0) (kk : (∀ (x : Int) (g' : AG), K0 x g' → J q Sh ce sl (pc + 3) L (.inl x :: st) g')) : J q Sh ce sl pc L (a0 :: st) g := j_callSi (as := [a0]) C B rfl hL hst hr hd hM kk
theorem j_callSi2 {K0 : Int → AG → Prop} {a0 a1 : AV} (C : JR own cc nL Ts R K J) (B : aCS Ts R own idx y ws rm 2) (hL : L.length = nL) (hst : st.length ≤ 8) (hr : ce ≤ R.cells ∧ sl ≤ R.slots) (hd : decode cc pc = .ok (.invokestatic idx, 3)) (hM : MetI y ws rm Sh [a0, a1] g K0) (kk : (∀ (x : Int) (g' : AG), K0 x g' → J q Sh ce sl (pc + 3) L (.inl x :: st) g')) : J q Sh ce sl pc L (a1 :: a0 :: st) g := j_callSi (as := [a0, a1]) C B rfl hL hst hr hd hM kk
theorem j_callSi3 {K0 : Int → AG → Prop} {a0 a1 a2 : AV} (C : JR own cc nL Ts R K J) (B : aCS Ts R own idx y ws rm 3) (hL : L.length = nL) (hst : st.length ≤ 8) (hr : ce ≤ R.cells ∧ sl ≤ R.slots) (hd : decode cc pc = .ok (.invokestatic idx, 3)) (hM : MetI y ws rm Sh [a0, a1, a2] g K0) (kk : (∀ (x : Int) (g' : AG), K0 x g' → J q Sh ce sl (pc + 3) L (.inl x :: st) g')) : J q Sh ce sl pc L (a2 :: a1 :: a0 :: st) g := j_callSi (as := [a0, a1, a2]) C B rfl hL hst hr hd hM kk
theorem j_callSi4 {K0 : Int → AG → Prop} {a0 a1 a2 a3 : AV} (C : JR own cc nL Ts R K J) (B : aCS Ts R own idx y ws rm 4) (hL : L.length = nL) (hst : st.length ≤ 8) (hr : ce ≤ R.cells ∧ sl ≤ R.slots) (hd : decode cc pc = .ok (.invokestatic idx, 3)) (hM : MetI y ws rm Sh [a0, a1, a2, a3] g K0) (kk : (∀ (x : Int) (g' : AG), K0 x g' → J q Sh ce sl (pc + 3) L (.inl x :: st) g')) : J q Sh ce sl pc L (a3 :: a2 :: a1 :: a0 :: st) g := j_callSi (as := [a0, a1, a2, a3]) C B rfl hL hst hr hd hM kk
theorem j_callSi5 {K0 : Int → AG → Prop} {a0 a1 a2 a3 a4 : AV} (C : JR own cc nL Ts R K J) (B : aCS Ts R own idx y ws rm 5) (hL : L.length = nL) (hst : st.length ≤ 8) (hr : ce ≤ R.cells ∧ sl ≤ R.slots) (hd : decode cc pc = .ok (.invokestatic idx, 3)) (hM : MetI y ws rm Sh [a0, a1, a2, a3, a4] g K0) (kk : (∀ (x : Int) (g' : AG), K0 x g' → J q Sh ce sl (pc + 3) L (.inl x :: st) g')) : J q Sh ce sl pc L (a4 :: a3 :: a2 :: a1 :: a0 :: st) g := j_callSi (as := [a0, a1, a2, a3, a4]) C B rfl hL hst hr hd hM kk
theorem j_callSv0 {K0 : AG → Prop} (C : JR own cc nL Ts R K J) (B : aCS Ts R own idx y ws rm 0) (hL : L.length = nL) (hst : st.length ≤ 8) (hr : ce ≤ R.cells ∧ sl ≤ R.slots) (hd : decode cc pc = .ok (.invokestatic idx, 3)) (hM : MetV y ws rm Sh [] g K0) (kk : (∀ (g' : AG), K0 g' → J q Sh ce sl (pc + 3) L st g')) : J q Sh ce sl pc L (st) g := j_callSv (as := []) C B rfl hL hst hr hd hM kk
theorem j_callSv1 {K0 : AG → Prop} {a0 : AV} (C : JR own cc nL Ts R K J) (B : aCS Ts R own idx y ws rm 1) (hL : L.length = nL) (hst : st.length ≤ 8) (hr : ce ≤ R.cells ∧ sl ≤ R.slots) (hd : decode cc pc = .ok (.invokestatic idx, 3)) (hM : MetV y ws rm Sh [a0] g K0) (kk : (∀ (g' : AG), K0 g' → J q Sh ce sl (pc + 3) L st g')) : J q Sh ce sl pc L (a0 :: st) g := j_callSv (as := [a0]) C B rfl hL hst hr hd hM kk
theorem j_callSv2 {K0 : AG → Prop} {a0 a1 : AV} (C : JR own cc nL Ts R K J) (B : aCS Ts R own idx y ws rm 2) (hL : L.length = nL) (hst : st.length ≤ 8) (hr : ce ≤ R.cells ∧ sl ≤ R.slots) (hd : decode cc pc = .ok (.invokestatic idx, 3)) (hM : MetV y ws rm Sh [a0, a1] g K0) (kk : (∀ (g' : AG), K0 g' → J q Sh ce sl (pc + 3) L st g')) : J q Sh ce sl pc L (a1 :: a0 :: st) g := j_callSv (as := [a0, a1]) C B rfl hL hst hr hd hM kk
theorem j_callSv3 {K0 : AG → Prop} {a0 a1 a2 : AV} (C : JR own cc nL Ts R K J) (B : aCS Ts R own idx y ws rm 3) (hL : L.length = nL) (hst : st.length ≤ 8) (hr : ce ≤ R.cells ∧ sl ≤ R.slots) (hd : decode cc pc = .ok (.invokestatic idx, 3)) (hM : MetV y ws rm Sh [a0, a1, a2] g K0) (kk : (∀ (g' : AG), K0 g' → J q Sh ce sl (pc + 3) L st g')) : J q Sh ce sl pc L (a2 :: a1 :: a0 :: st) g := j_callSv (as := [a0, a1, a2]) C B rfl hL hst hr hd hM kk
theorem j_callSv4 {K0 : AG → Prop} {a0 a1 a2 a3 : AV} (C : JR own cc nL Ts R K J) (B : aCS Ts R own idx y ws rm 4) (hL : L.length = nL) (hst : st.length ≤ 8) (hr : ce ≤ R.cells ∧ sl ≤ R.slots) (hd : decode cc pc = .ok (.invokestatic idx, 3)) (hM : MetV y ws rm Sh [a0, a1, a2, a3] g K0) (kk : (∀ (g' : AG), K0 g' → J q Sh ce sl (pc + 3) L st g')) : J q Sh ce sl pc L (a3 :: a2 :: a1 :: a0 :: st) g := j_callSv (as := [a0, a1, a2, a3]) C B rfl hL hst hr hd hM kk
theorem j_callSv5 {K0 : AG → Prop} {a0 a1 a2 a3 a4 : AV} (C : JR own cc nL Ts R K J) (B : aCS Ts R own idx y ws rm 5) (hL : L.length = nL) (hst : st.length ≤ 8) (hr : ce ≤ R.cells ∧ sl ≤ R.slots) (hd : decode cc pc = .ok (.invokestatic idx, 3)) (hM : MetV y ws rm Sh [a0, a1, a2, a3, a4] g K0) (kk : (∀ (g' : AG), K0 g' → J q Sh ce sl (pc + 3) L st g')) : J q Sh ce sl pc L (a4 :: a3 :: a2 :: a1 :: a0 :: st) g := j_callSv (as := [a0, a1, a2, a3, a4]) C B rfl hL hst hr hd hM kk
set_option maxHeartbeats 4000000 in
theorem j_tsw3 (C : JR own cc nL Ts R K J) {dflt x o0 o1 o2 : Int} {len td t0 t1 t2 : Nat} (hd : decode cc pc = .ok (.tableswitch dflt 0 2 #[o0, o1, o2], len)) (htd : (pc : Int) + dflt = (td : Int)) (ht : (pc : Int) + o0 = (t0 : Int) ∧ (pc : Int) + o1 = (t1 : Int) ∧ (pc : Int) + o2 = (t2 : Int)) (hX : aR x) (k0 : x = 0 → J q Sh ce sl t0 L st g) (k1 : x = 1 → J q Sh ce sl t1 L st g) (k2 : x = 2 → J q Sh ce sl t2 L st g) (kd : x < 0 ∨ 2 < x → J q Sh ce sl td L st g) : J q Sh ce sl pc L (.inl x :: st) g := by
  obtain ⟨h0, h1, h2⟩ := ht
  by_cases hin : x < 0 ∨ 2 < x
  · exact j_tout C hd hX hin htd (kd hin)
  · have hcs : x = 0 ∨ x = 1 ∨ x = 2 := by omega
    rcases hcs with rfl | rfl | rfl
    · exact j_tin C hd hX (by decide) (by decide) rfl h0 (k0 rfl)
    · exact j_tin C hd hX (by decide) (by decide) rfl h1 (k1 rfl)
    · exact j_tin C hd hX (by decide) (by decide) rfl h2 (k2 rfl)
set_option maxHeartbeats 4000000 in
theorem j_tsw4 (C : JR own cc nL Ts R K J) {dflt x o0 o1 o2 o3 : Int} {len td t0 t1 t2 t3 : Nat} (hd : decode cc pc = .ok (.tableswitch dflt 0 3 #[o0, o1, o2, o3], len)) (htd : (pc : Int) + dflt = (td : Int)) (ht : (pc : Int) + o0 = (t0 : Int) ∧ (pc : Int) + o1 = (t1 : Int) ∧ (pc : Int) + o2 = (t2 : Int) ∧ (pc : Int) + o3 = (t3 : Int)) (hX : aR x) (k0 : x = 0 → J q Sh ce sl t0 L st g) (k1 : x = 1 → J q Sh ce sl t1 L st g) (k2 : x = 2 → J q Sh ce sl t2 L st g) (k3 : x = 3 → J q Sh ce sl t3 L st g) (kd : x < 0 ∨ 3 < x → J q Sh ce sl td L st g) : J q Sh ce sl pc L (.inl x :: st) g := by
  obtain ⟨h0, h1, h2, h3⟩ := ht
  by_cases hin : x < 0 ∨ 3 < x
  · exact j_tout C hd hX hin htd (kd hin)
  · have hcs : x = 0 ∨ x = 1 ∨ x = 2 ∨ x = 3 := by omega
    rcases hcs with rfl | rfl | rfl | rfl
    · exact j_tin C hd hX (by decide) (by decide) rfl h0 (k0 rfl)
    · exact j_tin C hd hX (by decide) (by decide) rfl h1 (k1 rfl)
    · exact j_tin C hd hX (by decide) (by decide) rfl h2 (k2 rfl)
    · exact j_tin C hd hX (by decide) (by decide) rfl h3 (k3 rfl)
set_option maxHeartbeats 4000000 in
theorem j_tsw9 (C : JR own cc nL Ts R K J) {dflt x o0 o1 o2 o3 o4 o5 o6 o7 o8 : Int} {len td t0 t1 t2 t3 t4 t5 t6 t7 t8 : Nat} (hd : decode cc pc = .ok (.tableswitch dflt 0 8 #[o0, o1, o2, o3, o4, o5, o6, o7, o8], len)) (htd : (pc : Int) + dflt = (td : Int)) (ht : (pc : Int) + o0 = (t0 : Int) ∧ (pc : Int) + o1 = (t1 : Int) ∧ (pc : Int) + o2 = (t2 : Int) ∧ (pc : Int) + o3 = (t3 : Int) ∧ (pc : Int) + o4 = (t4 : Int) ∧ (pc : Int) + o5 = (t5 : Int) ∧ (pc : Int) + o6 = (t6 : Int) ∧ (pc : Int) + o7 = (t7 : Int) ∧ (pc : Int) + o8 = (t8 : Int)) (hX : aR x) (k0 : x = 0 → J q Sh ce sl t0 L st g) (k1 : x = 1 → J q Sh ce sl t1 L st g) (k2 : x = 2 → J q Sh ce sl t2 L st g) (k3 : x = 3 → J q Sh ce sl t3 L st g) (k4 : x = 4 → J q Sh ce sl t4 L st g) (k5 : x = 5 → J q Sh ce sl t5 L st g) (k6 : x = 6 → J q Sh ce sl t6 L st g) (k7 : x = 7 → J q Sh ce sl t7 L st g) (k8 : x = 8 → J q Sh ce sl t8 L st g) (kd : x < 0 ∨ 8 < x → J q Sh ce sl td L st g) : J q Sh ce sl pc L (.inl x :: st) g := by
  obtain ⟨h0, h1, h2, h3, h4, h5, h6, h7, h8⟩ := ht
  by_cases hin : x < 0 ∨ 8 < x
  · exact j_tout C hd hX hin htd (kd hin)
  · have hcs : x = 0 ∨ x = 1 ∨ x = 2 ∨ x = 3 ∨ x = 4 ∨ x = 5 ∨ x = 6 ∨ x = 7 ∨ x = 8 := by omega
    rcases hcs with rfl | rfl | rfl | rfl | rfl | rfl | rfl | rfl | rfl
    · exact j_tin C hd hX (by decide) (by decide) rfl h0 (k0 rfl)
    · exact j_tin C hd hX (by decide) (by decide) rfl h1 (k1 rfl)
    · exact j_tin C hd hX (by decide) (by decide) rfl h2 (k2 rfl)
    · exact j_tin C hd hX (by decide) (by decide) rfl h3 (k3 rfl)
    · exact j_tin C hd hX (by decide) (by decide) rfl h4 (k4 rfl)
    · exact j_tin C hd hX (by decide) (by decide) rfl h5 (k5 rfl)
    · exact j_tin C hd hX (by decide) (by decide) rfl h6 (k6 rfl)
    · exact j_tin C hd hX (by decide) (by decide) rfl h7 (k7 rfl)
    · exact j_tin C hd hX (by decide) (by decide) rfl h8 (k8 rfl)
set_option maxHeartbeats 4000000 in
theorem j_tsw24 (C : JR own cc nL Ts R K J) {dflt x o0 o1 o2 o3 o4 o5 o6 o7 o8 o9 o10 o11 o12 o13 o14 o15 o16 o17 o18 o19 o20 o21 o22 o23 : Int} {len td t0 t1 t2 t3 t4 t5 t6 t7 t8 t9 t10 t11 t12 t13 t14 t15 t16 t17 t18 t19 t20 t21 t22 t23 : Nat} (hd : decode cc pc = .ok (.tableswitch dflt 0 23 #[o0, o1, o2, o3, o4, o5, o6, o7, o8, o9, o10, o11, o12, o13, o14, o15, o16, o17, o18, o19, o20, o21, o22, o23], len)) (htd : (pc : Int) + dflt = (td : Int)) (ht : (pc : Int) + o0 = (t0 : Int) ∧ (pc : Int) + o1 = (t1 : Int) ∧ (pc : Int) + o2 = (t2 : Int) ∧ (pc : Int) + o3 = (t3 : Int) ∧ (pc : Int) + o4 = (t4 : Int) ∧ (pc : Int) + o5 = (t5 : Int) ∧ (pc : Int) + o6 = (t6 : Int) ∧ (pc : Int) + o7 = (t7 : Int) ∧ (pc : Int) + o8 = (t8 : Int) ∧ (pc : Int) + o9 = (t9 : Int) ∧ (pc : Int) + o10 = (t10 : Int) ∧ (pc : Int) + o11 = (t11 : Int) ∧ (pc : Int) + o12 = (t12 : Int) ∧ (pc : Int) + o13 = (t13 : Int) ∧ (pc : Int) + o14 = (t14 : Int) ∧ (pc : Int) + o15 = (t15 : Int) ∧ (pc : Int) + o16 = (t16 : Int) ∧ (pc : Int) + o17 = (t17 : Int) ∧ (pc : Int) + o18 = (t18 : Int) ∧ (pc : Int) + o19 = (t19 : Int) ∧ (pc : Int) + o20 = (t20 : Int) ∧ (pc : Int) + o21 = (t21 : Int) ∧ (pc : Int) + o22 = (t22 : Int) ∧ (pc : Int) + o23 = (t23 : Int)) (hX : aR x) (k0 : x = 0 → J q Sh ce sl t0 L st g) (k1 : x = 1 → J q Sh ce sl t1 L st g) (k2 : x = 2 → J q Sh ce sl t2 L st g) (k3 : x = 3 → J q Sh ce sl t3 L st g) (k4 : x = 4 → J q Sh ce sl t4 L st g) (k5 : x = 5 → J q Sh ce sl t5 L st g) (k6 : x = 6 → J q Sh ce sl t6 L st g) (k7 : x = 7 → J q Sh ce sl t7 L st g) (k8 : x = 8 → J q Sh ce sl t8 L st g) (k9 : x = 9 → J q Sh ce sl t9 L st g) (k10 : x = 10 → J q Sh ce sl t10 L st g) (k11 : x = 11 → J q Sh ce sl t11 L st g) (k12 : x = 12 → J q Sh ce sl t12 L st g) (k13 : x = 13 → J q Sh ce sl t13 L st g) (k14 : x = 14 → J q Sh ce sl t14 L st g) (k15 : x = 15 → J q Sh ce sl t15 L st g) (k16 : x = 16 → J q Sh ce sl t16 L st g) (k17 : x = 17 → J q Sh ce sl t17 L st g) (k18 : x = 18 → J q Sh ce sl t18 L st g) (k19 : x = 19 → J q Sh ce sl t19 L st g) (k20 : x = 20 → J q Sh ce sl t20 L st g) (k21 : x = 21 → J q Sh ce sl t21 L st g) (k22 : x = 22 → J q Sh ce sl t22 L st g) (k23 : x = 23 → J q Sh ce sl t23 L st g) (kd : x < 0 ∨ 23 < x → J q Sh ce sl td L st g) : J q Sh ce sl pc L (.inl x :: st) g := by
  obtain ⟨h0, h1, h2, h3, h4, h5, h6, h7, h8, h9, h10, h11, h12, h13, h14, h15, h16, h17, h18, h19, h20, h21, h22, h23⟩ := ht
  by_cases hin : x < 0 ∨ 23 < x
  · exact j_tout C hd hX hin htd (kd hin)
  · have hcs : x = 0 ∨ x = 1 ∨ x = 2 ∨ x = 3 ∨ x = 4 ∨ x = 5 ∨ x = 6 ∨ x = 7 ∨ x = 8 ∨ x = 9 ∨ x = 10 ∨ x = 11 ∨ x = 12 ∨ x = 13 ∨ x = 14 ∨ x = 15 ∨ x = 16 ∨ x = 17 ∨ x = 18 ∨ x = 19 ∨ x = 20 ∨ x = 21 ∨ x = 22 ∨ x = 23 := by omega
    rcases hcs with rfl | rfl | rfl | rfl | rfl | rfl | rfl | rfl | rfl | rfl | rfl | rfl | rfl | rfl | rfl | rfl | rfl | rfl | rfl | rfl | rfl | rfl | rfl | rfl
    · exact j_tin C hd hX (by decide) (by decide) rfl h0 (k0 rfl)
    · exact j_tin C hd hX (by decide) (by decide) rfl h1 (k1 rfl)
    · exact j_tin C hd hX (by decide) (by decide) rfl h2 (k2 rfl)
    · exact j_tin C hd hX (by decide) (by decide) rfl h3 (k3 rfl)
    · exact j_tin C hd hX (by decide) (by decide) rfl h4 (k4 rfl)
    · exact j_tin C hd hX (by decide) (by decide) rfl h5 (k5 rfl)
    · exact j_tin C hd hX (by decide) (by decide) rfl h6 (k6 rfl)
    · exact j_tin C hd hX (by decide) (by decide) rfl h7 (k7 rfl)
    · exact j_tin C hd hX (by decide) (by decide) rfl h8 (k8 rfl)
    · exact j_tin C hd hX (by decide) (by decide) rfl h9 (k9 rfl)
    · exact j_tin C hd hX (by decide) (by decide) rfl h10 (k10 rfl)
    · exact j_tin C hd hX (by decide) (by decide) rfl h11 (k11 rfl)
    · exact j_tin C hd hX (by decide) (by decide) rfl h12 (k12 rfl)
    · exact j_tin C hd hX (by decide) (by decide) rfl h13 (k13 rfl)
    · exact j_tin C hd hX (by decide) (by decide) rfl h14 (k14 rfl)
    · exact j_tin C hd hX (by decide) (by decide) rfl h15 (k15 rfl)
    · exact j_tin C hd hX (by decide) (by decide) rfl h16 (k16 rfl)
    · exact j_tin C hd hX (by decide) (by decide) rfl h17 (k17 rfl)
    · exact j_tin C hd hX (by decide) (by decide) rfl h18 (k18 rfl)
    · exact j_tin C hd hX (by decide) (by decide) rfl h19 (k19 rfl)
    · exact j_tin C hd hX (by decide) (by decide) rfl h20 (k20 rfl)
    · exact j_tin C hd hX (by decide) (by decide) rfl h21 (k21 rfl)
    · exact j_tin C hd hX (by decide) (by decide) rfl h22 (k22 rfl)
    · exact j_tin C hd hX (by decide) (by decide) rfl h23 (k23 rfl)
end JMore
/-- the 38 cells: the sheet, its eye, lips, sets, grades, and the model, each with its rows -/
def ShW : List AC := [.inl (4, [some (some 1), some (some 8), some (some 12), some (some 18)]), .inl (0, [some (some 2), some (some 3), some (some 4), some (some 5), none, none, some (some 6), some (some 7)]), .inr (false, 100), .inr (false, 100), .inr (false, 100), .inr (true, 100), .inr (false, 64), .inr (false, 64), .inl (2, [some (some 9), some (some 10), none, none, none, none, none, some (some 11)]), .inr (false, 24), .inr (false, 24), .inr (false, 10584), .inl (3, [some (some 8), some (some 13), some (some 14), some (some 15), none, some (some 16), some (some 17)]), .inr (false, 4), .inr (false, 4), .inr (false, 4), .inr (false, 25), .inr (false, 24), .inl (1, [none, some (some 19), some (some 20), none]), .inr (false, 81), .inr (false, 4608), .inl (5, [none, none, some (some 22), some (some 23), some (some 24), some (some 25), some (some 26), some (some 27), some (some 28), some (some 29), none, none, none, none, none, some (some 30), some (some 31), some (some 32), none, some (some 33), some (some 34), some (some 35), some (some 36), some (some 37)]), .inr (false, 100), .inr (false, 100), .inr (false, 100), .inr (true, 100), .inr (false, 64), .inr (false, 64), .inr (false, 24), .inr (false, 24), .inr (false, 4), .inr (false, 4), .inr (false, 4), .inr (false, 81), .inr (false, 10584), .inr (false, 25), .inr (false, 24), .inr (false, 4608)]
end
section
abbrev rmX0_forget : Room := { frames := 0, cells := 0, slots := 0, locals := 0 }
abbrev rmX0_add : Room := { frames := 1, cells := 0, slots := 0, locals := 27 }
abbrev rmX0_fit : Room := { frames := 0, cells := 0, slots := 0, locals := 0 }
abbrev rmX0_knotOfTime : Room := { frames := 0, cells := 0, slots := 0, locals := 0 }
abbrev rmX0_count : Room := { frames := 0, cells := 0, slots := 0, locals := 0 }
abbrev rmX0_fittingCount : Room := { frames := 0, cells := 0, slots := 0, locals := 0 }
abbrev rmX0_timeOf : Room := { frames := 0, cells := 0, slots := 0, locals := 0 }
abbrev rmX0_placeOf : Room := { frames := 0, cells := 0, slots := 0, locals := 0 }
abbrev rmX0_valueOf : Room := { frames := 0, cells := 0, slots := 0, locals := 0 }
abbrev rmX0_isFitting : Room := { frames := 0, cells := 0, slots := 0, locals := 0 }
abbrev rmX0_hasAcross : Room := { frames := 0, cells := 0, slots := 0, locals := 0 }
abbrev rmX0_acrossOf : Room := { frames := 0, cells := 0, slots := 0, locals := 0 }
abbrev rmX0_timesHangTogether : Room := { frames := 1, cells := 0, slots := 0, locals := 20 }
abbrev rmX0_moreAlong : Room := { frames := 1, cells := 0, slots := 0, locals := 20 }
abbrev rmX0_countGroups : Room := { frames := 1, cells := 0, slots := 0, locals := 22 }
abbrev rmX0_isFirstOfGroup : Room := { frames := 0, cells := 0, slots := 0, locals := 0 }
abbrev rmJ7_fill_53178 : Room := { frames := 0, cells := 0, slots := 0, locals := 0 }
abbrev rmX1_count : Room := { frames := 0, cells := 0, slots := 0, locals := 0 }
abbrev rmX1_add : Room := { frames := 0, cells := 0, slots := 0, locals := 0 }
abbrev rmX1_putCost : Room := { frames := 1, cells := 0, slots := 0, locals := 22 }
abbrev rmX1_costOf : Room := { frames := 0, cells := 0, slots := 0, locals := 0 }
abbrev rmX1_leastCosts : Room := { frames := 4, cells := 0, slots := 0, locals := 93 }
abbrev rmX1_stepOf : Room := { frames := 4, cells := 0, slots := 0, locals := 93 }
abbrev rmX1_allBut : Room := { frames := 1, cells := 0, slots := 0, locals := 21 }
abbrev rmX1_without : Room := { frames := 0, cells := 0, slots := 0, locals := 0 }
abbrev rmX1_has : Room := { frames := 0, cells := 0, slots := 0, locals := 0 }
abbrev rmX1_restOf : Room := { frames := 0, cells := 0, slots := 0, locals := 0 }
abbrev rmX1_weighAll : Room := { frames := 3, cells := 0, slots := 0, locals := 71 }
abbrev rmX1_throughStep : Room := { frames := 1, cells := 0, slots := 0, locals := 22 }
abbrev rmX1_lesserStep : Room := { frames := 2, cells := 0, slots := 0, locals := 45 }
abbrev rmX2_renew : Room := { frames := 1, cells := 0, slots := 0, locals := 23 }
abbrev rmX2_places : Room := { frames := 0, cells := 0, slots := 0, locals := 0 }
abbrev rmX2_nextLaw : Room := { frames := 0, cells := 0, slots := 0, locals := 0 }
abbrev rmX2_bendLaw : Room := { frames := 0, cells := 0, slots := 0, locals := 0 }
abbrev rmX2_mainSpread : Room := { frames := 0, cells := 0, slots := 0, locals := 0 }
abbrev rmX2_sideSpread : Room := { frames := 0, cells := 0, slots := 0, locals := 0 }
abbrev rmX2_baseOf : Room := { frames := 0, cells := 0, slots := 0, locals := 0 }
abbrev rmX2_settingOf : Room := { frames := 0, cells := 0, slots := 0, locals := 0 }
abbrev rmX2_putLaws : Room := { frames := 0, cells := 0, slots := 0, locals := 0 }
abbrev rmX2_putSpread : Room := { frames := 0, cells := 0, slots := 0, locals := 0 }
abbrev rmX2_putBase : Room := { frames := 0, cells := 0, slots := 0, locals := 0 }
abbrev rmX2_trySetting : Room := { frames := 2, cells := 0, slots := 0, locals := 47 }
abbrev rmX2_isLawful : Room := { frames := 1, cells := 0, slots := 0, locals := 24 }
abbrev rmX2_errorOf : Room := { frames := 0, cells := 0, slots := 0, locals := 0 }
abbrev rmX2_sizeOf : Room := { frames := 1, cells := 0, slots := 0, locals := 24 }
abbrev rmX2_unevenness : Room := { frames := 2, cells := 0, slots := 0, locals := 46 }
abbrev rmX2_together : Room := { frames := 1, cells := 0, slots := 0, locals := 24 }
abbrev rmX2_settle : Room := { frames := 4, cells := 0, slots := 0, locals := 105 }
abbrev rmX2_weighLast : Room := { frames := 1, cells := 0, slots := 0, locals := 24 }
abbrev rmX2_weigh : Room := { frames := 3, cells := 0, slots := 0, locals := 79 }
abbrev rmX2_leastRest : Room := { frames := 2, cells := 0, slots := 0, locals := 46 }
abbrev rmX2_settleFirstTwo : Room := { frames := 2, cells := 0, slots := 0, locals := 46 }
abbrev rmX2_lesserAfter : Room := { frames := 2, cells := 0, slots := 0, locals := 46 }
abbrev rmX2_lowestAfter : Room := { frames := 1, cells := 0, slots := 0, locals := 24 }
abbrev rmX2_highestAfter : Room := { frames := 1, cells := 0, slots := 0, locals := 24 }
abbrev rmX2_spot : Room := { frames := 0, cells := 0, slots := 0, locals := 0 }
abbrev rmX3_forget : Room := { frames := 0, cells := 0, slots := 0, locals := 0 }
abbrev rmX3_count : Room := { frames := 0, cells := 0, slots := 0, locals := 0 }
abbrev rmX3_add : Room := { frames := 0, cells := 0, slots := 0, locals := 0 }
abbrev rmX3_lies : Room := { frames := 2, cells := 0, slots := 0, locals := 45 }
abbrev rmX3_plan : Room := { frames := 4, cells := 0, slots := 0, locals := 94 }
abbrev rmX3_weigh : Room := { frames := 3, cells := 0, slots := 0, locals := 69 }
abbrev rmX3_dropCovered : Room := { frames := 0, cells := 0, slots := 0, locals := 0 }
abbrev rmX3_plannedAt : Room := { frames := 0, cells := 0, slots := 0, locals := 0 }
abbrev rmX4_sheet : Room := { frames := 2, cells := 0, slots := 0, locals := 44 }
abbrev rmX4_read : Room := { frames := 2, cells := 0, slots := 0, locals := 51 }
abbrev rmX4_reading : Room := { frames := 1, cells := 0, slots := 0, locals := 22 }
abbrev rmX4_across : Room := { frames := 2, cells := 0, slots := 0, locals := 43 }
abbrev rmX4_along : Room := { frames := 2, cells := 0, slots := 0, locals := 42 }
abbrev rmX4_groups : Room := { frames := 2, cells := 0, slots := 0, locals := 45 }
abbrev rmX4_take : Room := { frames := 1, cells := 0, slots := 0, locals := 22 }
abbrev rmX4_clear : Room := { frames := 1, cells := 0, slots := 0, locals := 21 }
abbrev rmX4_laws : Room := { frames := 2, cells := 0, slots := 0, locals := 47 }
abbrev rmX4_spread : Room := { frames := 1, cells := 0, slots := 0, locals := 22 }
abbrev rmX4_base : Room := { frames := 2, cells := 0, slots := 0, locals := 43 }
abbrev rmX4_set : Room := { frames := 3, cells := 0, slots := 0, locals := 70 }
abbrev rmX4_about : Room := { frames := 2, cells := 0, slots := 0, locals := 43 }
abbrev rmX4_uneven : Room := { frames := 3, cells := 0, slots := 0, locals := 69 }
abbrev rmX4_best : Room := { frames := 5, cells := 0, slots := 0, locals := 129 }
abbrev rmX4_kind : Room := { frames := 1, cells := 0, slots := 0, locals := 23 }
abbrev rmX4_canLie : Room := { frames := 3, cells := 0, slots := 0, locals := 69 }
abbrev rmX4_cut : Room := { frames := 5, cells := 0, slots := 0, locals := 116 }
abbrev rmX4_cutAt : Room := { frames := 5, cells := 0, slots := 0, locals := 116 }
abbrev rmX4_grade : Room := { frames := 1, cells := 0, slots := 0, locals := 20 }
abbrev rmX4_cost : Room := { frames := 2, cells := 0, slots := 0, locals := 46 }
abbrev rmX4_tour : Room := { frames := 5, cells := 0, slots := 0, locals := 114 }
abbrev rmX4_tourAt : Room := { frames := 5, cells := 0, slots := 0, locals := 118 }
abbrev rmX4_told : Room := { frames := 1, cells := 0, slots := 0, locals := 20 }
abbrev rmX4_isPlace : Room := { frames := 1, cells := 0, slots := 0, locals := 22 }
abbrev rmX4_isGrade : Room := { frames := 1, cells := 0, slots := 0, locals := 22 }
abbrev rmX4_isTime : Room := { frames := 1, cells := 0, slots := 0, locals := 22 }
abbrev rmX4_within : Room := { frames := 0, cells := 0, slots := 0, locals := 0 }
abbrev rmX5_in : Room := { frames := 0, cells := 0, slots := 0, locals := 0 }
abbrev rmX5_size : Room := { frames := 0, cells := 0, slots := 0, locals := 0 }
abbrev rmX5_isPlace : Room := { frames := 1, cells := 0, slots := 0, locals := 22 }
abbrev rmX5_begin : Room := { frames := 0, cells := 0, slots := 0, locals := 0 }
abbrev rmX5_sheet : Room := { frames := 1, cells := 0, slots := 0, locals := 22 }
abbrev rmX5_read : Room := { frames := 2, cells := 0, slots := 0, locals := 43 }
abbrev rmX5_reading : Room := { frames := 1, cells := 0, slots := 0, locals := 22 }
abbrev rmX5_isAcross : Room := { frames := 0, cells := 0, slots := 0, locals := 0 }
abbrev rmX5_acrossOf : Room := { frames := 0, cells := 0, slots := 0, locals := 0 }
abbrev rmX5_across : Room := { frames := 2, cells := 0, slots := 0, locals := 43 }
abbrev rmX5_along : Room := { frames := 1, cells := 0, slots := 0, locals := 22 }
abbrev rmX5_groups : Room := { frames := 0, cells := 0, slots := 0, locals := 0 }
abbrev rmX5_take : Room := { frames := 1, cells := 0, slots := 0, locals := 22 }
abbrev rmX5_clear : Room := { frames := 1, cells := 0, slots := 0, locals := 21 }
abbrev rmX5_areLawful : Room := { frames := 1, cells := 0, slots := 0, locals := 20 }
abbrev rmX5_laws : Room := { frames := 2, cells := 0, slots := 0, locals := 44 }
abbrev rmX5_spread : Room := { frames := 1, cells := 0, slots := 0, locals := 22 }
abbrev rmX5_base : Room := { frames := 2, cells := 0, slots := 0, locals := 43 }
abbrev rmX5_set : Room := { frames := 2, cells := 0, slots := 0, locals := 44 }
abbrev rmX5_error : Room := { frames := 0, cells := 0, slots := 0, locals := 0 }
abbrev rmX5_about : Room := { frames := 2, cells := 0, slots := 0, locals := 43 }
abbrev rmX5_with : Room := { frames := 0, cells := 0, slots := 0, locals := 0 }
abbrev rmX5_unevenOf : Room := { frames := 1, cells := 0, slots := 0, locals := 23 }
abbrev rmX5_uneven : Room := { frames := 2, cells := 0, slots := 0, locals := 46 }
abbrev rmX5_goes : Room := { frames := 1, cells := 0, slots := 0, locals := 20 }
abbrev rmX5_layLeast : Room := { frames := 2, cells := 0, slots := 0, locals := 44 }
abbrev rmX5_best : Room := { frames := 3, cells := 0, slots := 0, locals := 73 }
abbrev rmX5_kind : Room := { frames := 1, cells := 0, slots := 0, locals := 22 }
abbrev rmX5_lies : Room := { frames := 1, cells := 0, slots := 0, locals := 23 }
abbrev rmX5_canLie : Room := { frames := 2, cells := 0, slots := 0, locals := 47 }
abbrev rmX5_layCut : Room := { frames := 2, cells := 0, slots := 0, locals := 47 }
abbrev rmX5_cut : Room := { frames := 3, cells := 0, slots := 0, locals := 70 }
abbrev rmX5_cutAt : Room := { frames := 3, cells := 0, slots := 0, locals := 70 }
abbrev rmX5_grade : Room := { frames := 0, cells := 0, slots := 0, locals := 0 }
abbrev rmX5_isGrade : Room := { frames := 1, cells := 0, slots := 0, locals := 22 }
abbrev rmX5_cost : Room := { frames := 2, cells := 0, slots := 0, locals := 43 }
abbrev rmX5_layRest : Room := { frames := 0, cells := 0, slots := 0, locals := 0 }
abbrev rmX5_tour : Room := { frames := 2, cells := 0, slots := 0, locals := 43 }
abbrev rmX5_tourAt : Room := { frames := 2, cells := 0, slots := 0, locals := 43 }
abbrev rmX5_fitting : Room := { frames := 0, cells := 0, slots := 0, locals := 0 }
abbrev rmX5_told : Room := { frames := 1, cells := 0, slots := 0, locals := 22 }
theorem inX0_forget_X0 : ∀ w ∈ wsX00, w ∈ wsX0_forget := fun w h => List.mem_cons_of_mem _ (List.mem_append_right _ h)
theorem pX0_forget_34 : aFP wsX0_forget RX0 34 0 4 false := ⟨_, _, _, tyX0, rfl, inX0_forget_X0, tyX0_ok, nmX0, by decide, by decide +kernel, rfl, rfl⟩
theorem pX0_forget_38 : aFP wsX0_forget RX0 38 0 5 false := ⟨_, _, _, tyX0, rfl, inX0_forget_X0, tyX0_ok, nmX0, by decide, by decide +kernel, rfl, rfl⟩
theorem fX0_forget_25 : aFL wsX0_forget RX0 25 0 6 := ⟨_, _, _, rfl, inX0_forget_X0, by decide, by decide +kernel⟩
theorem fX0_forget_28 : aFL wsX0_forget RX0 28 0 7 := ⟨_, _, _, rfl, inX0_forget_X0, by decide, by decide +kernel⟩
theorem vX0_add_41 : aCS wsX0_add rmX0_add RX0 41 yX0_knotOfTime wsX0_knotOfTime rmX0_knotOfTime 1 := ⟨_, _, _, _, gX0_add_X0_knotOfTime, rfl, rfl, rfl, ⟨by decide +kernel, by decide +kernel, by decide +kernel⟩, by decide⟩
theorem vX0_add_45 : aCV wsX0_add rmX0_add RX0 45 0 yX0_fit wsX0_fit rmX0_fit 3 := ⟨TX0, _, _, _, _, _, rfl, gX0_add_X0_fit, rfl, rfl, rfl, ⟨by decide +kernel, by decide +kernel, by decide +kernel⟩, by decide⟩
theorem inX0_add_X0 : ∀ w ∈ wsX00, w ∈ wsX0_add := fun w h => List.mem_cons_of_mem _ (List.mem_append_right _ h)
theorem fX0_add_9 : aFL wsX0_add RX0 9 0 0 := ⟨_, _, _, rfl, inX0_add_X0, by decide, by decide +kernel⟩
theorem fX0_add_34 : aFL wsX0_add RX0 34 0 4 := ⟨_, _, _, rfl, inX0_add_X0, by decide, by decide +kernel⟩
theorem fX0_add_15 : aFL wsX0_add RX0 15 0 1 := ⟨_, _, _, rfl, inX0_add_X0, by decide, by decide +kernel⟩
theorem fX0_add_18 : aFL wsX0_add RX0 18 0 2 := ⟨_, _, _, rfl, inX0_add_X0, by decide, by decide +kernel⟩
theorem fX0_add_21 : aFL wsX0_add RX0 21 0 3 := ⟨_, _, _, rfl, inX0_add_X0, by decide, by decide +kernel⟩
theorem pX0_add_34 : aFP wsX0_add RX0 34 0 4 false := ⟨_, _, _, tyX0, rfl, inX0_add_X0, tyX0_ok, nmX0, by decide, by decide +kernel, rfl, rfl⟩
theorem fX0_add_38 : aFL wsX0_add RX0 38 0 5 := ⟨_, _, _, rfl, inX0_add_X0, by decide, by decide +kernel⟩
theorem pX0_add_38 : aFP wsX0_add RX0 38 0 5 false := ⟨_, _, _, tyX0, rfl, inX0_add_X0, tyX0_ok, nmX0, by decide, by decide +kernel, rfl, rfl⟩
theorem inX0_fit_X0 : ∀ w ∈ wsX00, w ∈ wsX0_fit := fun w h => List.mem_cons_of_mem _ (List.mem_append_right _ h)
theorem fX0_fit_25 : aFL wsX0_fit RX0 25 0 6 := ⟨_, _, _, rfl, inX0_fit_X0, by decide, by decide +kernel⟩
theorem fX0_fit_28 : aFL wsX0_fit RX0 28 0 7 := ⟨_, _, _, rfl, inX0_fit_X0, by decide, by decide +kernel⟩
theorem inX0_count_X0 : ∀ w ∈ wsX00, w ∈ wsX0_count := fun w h => List.mem_cons_of_mem _ (List.mem_append_right _ h)
theorem fX0_count_34 : aFL wsX0_count RX0 34 0 4 := ⟨_, _, _, rfl, inX0_count_X0, by decide, by decide +kernel⟩
theorem inX0_fittingCount_X0 : ∀ w ∈ wsX00, w ∈ wsX0_fittingCount := fun w h => List.mem_cons_of_mem _ (List.mem_append_right _ h)
theorem fX0_fittingCount_38 : aFL wsX0_fittingCount RX0 38 0 5 := ⟨_, _, _, rfl, inX0_fittingCount_X0, by decide, by decide +kernel⟩
theorem inX0_timeOf_X0 : ∀ w ∈ wsX00, w ∈ wsX0_timeOf := fun w h => List.mem_cons_of_mem _ (List.mem_append_right _ h)
theorem fX0_timeOf_9 : aFL wsX0_timeOf RX0 9 0 0 := ⟨_, _, _, rfl, inX0_timeOf_X0, by decide, by decide +kernel⟩
theorem inX0_placeOf_X0 : ∀ w ∈ wsX00, w ∈ wsX0_placeOf := fun w h => List.mem_cons_of_mem _ (List.mem_append_right _ h)
theorem fX0_placeOf_15 : aFL wsX0_placeOf RX0 15 0 1 := ⟨_, _, _, rfl, inX0_placeOf_X0, by decide, by decide +kernel⟩
theorem inX0_valueOf_X0 : ∀ w ∈ wsX00, w ∈ wsX0_valueOf := fun w h => List.mem_cons_of_mem _ (List.mem_append_right _ h)
theorem fX0_valueOf_18 : aFL wsX0_valueOf RX0 18 0 2 := ⟨_, _, _, rfl, inX0_valueOf_X0, by decide, by decide +kernel⟩
theorem inX0_isFitting_X0 : ∀ w ∈ wsX00, w ∈ wsX0_isFitting := fun w h => List.mem_cons_of_mem _ (List.mem_append_right _ h)
theorem fX0_isFitting_21 : aFL wsX0_isFitting RX0 21 0 3 := ⟨_, _, _, rfl, inX0_isFitting_X0, by decide, by decide +kernel⟩
theorem inX0_hasAcross_X0 : ∀ w ∈ wsX00, w ∈ wsX0_hasAcross := fun w h => List.mem_cons_of_mem _ (List.mem_append_right _ h)
theorem fX0_hasAcross_25 : aFL wsX0_hasAcross RX0 25 0 6 := ⟨_, _, _, rfl, inX0_hasAcross_X0, by decide, by decide +kernel⟩
theorem inX0_acrossOf_X0 : ∀ w ∈ wsX00, w ∈ wsX0_acrossOf := fun w h => List.mem_cons_of_mem _ (List.mem_append_right _ h)
theorem fX0_acrossOf_28 : aFL wsX0_acrossOf RX0 28 0 7 := ⟨_, _, _, rfl, inX0_acrossOf_X0, by decide, by decide +kernel⟩
theorem inX0_timesHangTogether_X0 : ∀ w ∈ wsX00, w ∈ wsX0_timesHangTogether := fun w h => List.mem_cons_of_mem _ (List.mem_append_right _ h)
theorem fX0_timesHangTogether_25 : aFL wsX0_timesHangTogether RX0 25 0 6 := ⟨_, _, _, rfl, inX0_timesHangTogether_X0, by decide, by decide +kernel⟩
theorem vX0_timesHangTogether_41 : aCS wsX0_timesHangTogether rmX0_timesHangTogether RX0 41 yX0_knotOfTime wsX0_knotOfTime rmX0_knotOfTime 1 := ⟨_, _, _, _, gX0_timesHangTogether_X0_knotOfTime, rfl, rfl, rfl, ⟨by decide +kernel, by decide +kernel, by decide +kernel⟩, by decide⟩
theorem inX0_moreAlong_X0 : ∀ w ∈ wsX00, w ∈ wsX0_moreAlong := fun w h => List.mem_cons_of_mem _ (List.mem_append_right _ h)
theorem fX0_moreAlong_28 : aFL wsX0_moreAlong RX0 28 0 7 := ⟨_, _, _, rfl, inX0_moreAlong_X0, by decide, by decide +kernel⟩
theorem vX0_moreAlong_41 : aCS wsX0_moreAlong rmX0_moreAlong RX0 41 yX0_knotOfTime wsX0_knotOfTime rmX0_knotOfTime 1 := ⟨_, _, _, _, gX0_moreAlong_X0_knotOfTime, rfl, rfl, rfl, ⟨by decide +kernel, by decide +kernel, by decide +kernel⟩, by decide⟩
theorem vX0_countGroups_49 : aCV wsX0_countGroups rmX0_countGroups RX0 49 0 yX0_isFirstOfGroup wsX0_isFirstOfGroup rmX0_isFirstOfGroup 1 := ⟨TX0, _, _, _, _, _, rfl, gX0_countGroups_X0_isFirstOfGroup, rfl, rfl, rfl, ⟨by decide +kernel, by decide +kernel, by decide +kernel⟩, by decide⟩
theorem inX0_isFirstOfGroup_X0 : ∀ w ∈ wsX00, w ∈ wsX0_isFirstOfGroup := fun w h => List.mem_cons_of_mem _ (List.mem_append_right _ h)
theorem fX0_isFirstOfGroup_25 : aFL wsX0_isFirstOfGroup RX0 25 0 6 := ⟨_, _, _, rfl, inX0_isFirstOfGroup_X0, by decide, by decide +kernel⟩
end
section
theorem inX1_count_X1 : ∀ w ∈ wsX10, w ∈ wsX1_count := fun w h => List.mem_cons_of_mem _ (List.mem_append_right _ h)
theorem fX1_count_24 : aFL wsX1_count RX1 24 1 0 := ⟨_, _, _, rfl, inX1_count_X1, by decide, by decide +kernel⟩
theorem inX1_add_X1 : ∀ w ∈ wsX10, w ∈ wsX1_add := fun w h => List.mem_cons_of_mem _ (List.mem_append_right _ h)
theorem pX1_add_28 : aFP wsX1_add RX1 28 1 3 true := ⟨_, _, _, tyX1, rfl, inX1_add_X1, tyX1_ok, nmX1, by decide, by decide +kernel, rfl, rfl⟩
theorem fX1_add_24 : aFL wsX1_add RX1 24 1 0 := ⟨_, _, _, rfl, inX1_add_X1, by decide, by decide +kernel⟩
theorem pX1_add_24 : aFP wsX1_add RX1 24 1 0 false := ⟨_, _, _, tyX1, rfl, inX1_add_X1, tyX1_ok, nmX1, by decide, by decide +kernel, rfl, rfl⟩
theorem vX1_putCost_32 : aCV wsX1_putCost rmX1_putCost RX1 32 1 yX1_costOf wsX1_costOf rmX1_costOf 2 := ⟨TX1, _, _, _, _, _, rfl, gX1_putCost_X1_costOf, rfl, rfl, rfl, ⟨by decide +kernel, by decide +kernel, by decide +kernel⟩, by decide⟩
theorem inX1_putCost_X1 : ∀ w ∈ wsX10, w ∈ wsX1_putCost := fun w h => List.mem_cons_of_mem _ (List.mem_append_right _ h)
theorem fX1_putCost_9 : aFL wsX1_putCost RX1 9 1 1 := ⟨_, _, _, rfl, inX1_putCost_X1, by decide, by decide +kernel⟩
theorem pX1_putCost_28 : aFP wsX1_putCost RX1 28 1 3 true := ⟨_, _, _, tyX1, rfl, inX1_putCost_X1, tyX1_ok, nmX1, by decide, by decide +kernel, rfl, rfl⟩
theorem inX1_costOf_X1 : ∀ w ∈ wsX10, w ∈ wsX1_costOf := fun w h => List.mem_cons_of_mem _ (List.mem_append_right _ h)
theorem fX1_costOf_9 : aFL wsX1_costOf RX1 9 1 1 := ⟨_, _, _, rfl, inX1_costOf_X1, by decide, by decide +kernel⟩
theorem vX1_leastCosts_36 : aCV wsX1_leastCosts rmX1_leastCosts RX1 36 1 yX1_weighAll wsX1_weighAll rmX1_weighAll 0 := ⟨TX1, _, _, _, _, _, rfl, gX1_leastCosts_X1_weighAll, rfl, rfl, rfl, ⟨by decide +kernel, by decide +kernel, by decide +kernel⟩, by decide⟩
theorem vX1_leastCosts_39 : aCV wsX1_leastCosts rmX1_leastCosts RX1 39 1 yX1_allBut wsX1_allBut rmX1_allBut 1 := ⟨TX1, _, _, _, _, _, rfl, gX1_leastCosts_X1_allBut, rfl, rfl, rfl, ⟨by decide +kernel, by decide +kernel, by decide +kernel⟩, by decide⟩
theorem vX1_leastCosts_43 : aCV wsX1_leastCosts rmX1_leastCosts RX1 43 1 yX1_restOf wsX1_restOf rmX1_restOf 2 := ⟨TX1, _, _, _, _, _, rfl, gX1_leastCosts_X1_restOf, rfl, rfl, rfl, ⟨by decide +kernel, by decide +kernel, by decide +kernel⟩, by decide⟩
theorem vX1_stepOf_36 : aCV wsX1_stepOf rmX1_stepOf RX1 36 1 yX1_weighAll wsX1_weighAll rmX1_weighAll 0 := ⟨TX1, _, _, _, _, _, rfl, gX1_stepOf_X1_weighAll, rfl, rfl, rfl, ⟨by decide +kernel, by decide +kernel, by decide +kernel⟩, by decide⟩
theorem vX1_stepOf_39 : aCV wsX1_stepOf rmX1_stepOf RX1 39 1 yX1_allBut wsX1_allBut rmX1_allBut 1 := ⟨TX1, _, _, _, _, _, rfl, gX1_stepOf_X1_allBut, rfl, rfl, rfl, ⟨by decide +kernel, by decide +kernel, by decide +kernel⟩, by decide⟩
theorem vX1_stepOf_46 : aCV wsX1_stepOf rmX1_stepOf RX1 46 1 yX1_lesserStep wsX1_lesserStep rmX1_lesserStep 2 := ⟨TX1, _, _, _, _, _, rfl, gX1_stepOf_X1_lesserStep, rfl, rfl, rfl, ⟨by decide +kernel, by decide +kernel, by decide +kernel⟩, by decide⟩
theorem vX1_stepOf_49 : aCS wsX1_stepOf rmX1_stepOf RX1 49 yX1_without wsX1_without rmX1_without 2 := ⟨_, _, _, _, gX1_stepOf_X1_without, rfl, rfl, rfl, ⟨by decide +kernel, by decide +kernel, by decide +kernel⟩, by decide⟩
theorem inX1_allBut_X1 : ∀ w ∈ wsX10, w ∈ wsX1_allBut := fun w h => List.mem_cons_of_mem _ (List.mem_append_right _ h)
theorem fX1_allBut_24 : aFL wsX1_allBut RX1 24 1 0 := ⟨_, _, _, rfl, inX1_allBut_X1, by decide, by decide +kernel⟩
theorem vX1_allBut_49 : aCS wsX1_allBut rmX1_allBut RX1 49 yX1_without wsX1_without rmX1_without 2 := ⟨_, _, _, _, gX1_allBut_X1_without, rfl, rfl, rfl, ⟨by decide +kernel, by decide +kernel, by decide +kernel⟩, by decide⟩
theorem inX1_restOf_X1 : ∀ w ∈ wsX10, w ∈ wsX1_restOf := fun w h => List.mem_cons_of_mem _ (List.mem_append_right _ h)
theorem fX1_restOf_15 : aFL wsX1_restOf RX1 15 1 2 := ⟨_, _, _, rfl, inX1_restOf_X1, by decide, by decide +kernel⟩
theorem inX1_weighAll_X1 : ∀ w ∈ wsX10, w ∈ wsX1_weighAll := fun w h => List.mem_cons_of_mem _ (List.mem_append_right _ h)
theorem fX1_weighAll_28 : aFL wsX1_weighAll RX1 28 1 3 := ⟨_, _, _, rfl, inX1_weighAll_X1, by decide, by decide +kernel⟩
theorem fX1_weighAll_24 : aFL wsX1_weighAll RX1 24 1 0 := ⟨_, _, _, rfl, inX1_weighAll_X1, by decide, by decide +kernel⟩
theorem vX1_weighAll_52 : aCS wsX1_weighAll rmX1_weighAll RX1 52 yX1_has wsX1_has rmX1_has 2 := ⟨_, _, _, _, gX1_weighAll_X1_has, rfl, rfl, rfl, ⟨by decide +kernel, by decide +kernel, by decide +kernel⟩, by decide⟩
theorem fX1_weighAll_15 : aFL wsX1_weighAll RX1 15 1 2 := ⟨_, _, _, rfl, inX1_weighAll_X1, by decide, by decide +kernel⟩
theorem vX1_weighAll_46 : aCV wsX1_weighAll rmX1_weighAll RX1 46 1 yX1_lesserStep wsX1_lesserStep rmX1_lesserStep 2 := ⟨TX1, _, _, _, _, _, rfl, gX1_weighAll_X1_lesserStep, rfl, rfl, rfl, ⟨by decide +kernel, by decide +kernel, by decide +kernel⟩, by decide⟩
theorem vX1_weighAll_56 : aCV wsX1_weighAll rmX1_weighAll RX1 56 1 yX1_throughStep wsX1_throughStep rmX1_throughStep 3 := ⟨TX1, _, _, _, _, _, rfl, gX1_weighAll_X1_throughStep, rfl, rfl, rfl, ⟨by decide +kernel, by decide +kernel, by decide +kernel⟩, by decide⟩
theorem pX1_weighAll_28 : aFP wsX1_weighAll RX1 28 1 3 true := ⟨_, _, _, tyX1, rfl, inX1_weighAll_X1, tyX1_ok, nmX1, by decide, by decide +kernel, rfl, rfl⟩
theorem vX1_throughStep_32 : aCV wsX1_throughStep rmX1_throughStep RX1 32 1 yX1_costOf wsX1_costOf rmX1_costOf 2 := ⟨TX1, _, _, _, _, _, rfl, gX1_throughStep_X1_costOf, rfl, rfl, rfl, ⟨by decide +kernel, by decide +kernel, by decide +kernel⟩, by decide⟩
theorem vX1_throughStep_49 : aCS wsX1_throughStep rmX1_throughStep RX1 49 yX1_without wsX1_without rmX1_without 2 := ⟨_, _, _, _, gX1_throughStep_X1_without, rfl, rfl, rfl, ⟨by decide +kernel, by decide +kernel, by decide +kernel⟩, by decide⟩
theorem vX1_throughStep_43 : aCV wsX1_throughStep rmX1_throughStep RX1 43 1 yX1_restOf wsX1_restOf rmX1_restOf 2 := ⟨TX1, _, _, _, _, _, rfl, gX1_throughStep_X1_restOf, rfl, rfl, rfl, ⟨by decide +kernel, by decide +kernel, by decide +kernel⟩, by decide⟩
theorem kX1_lesserStep_60 : Cond.constant RX1 60 (i3 (1000000)) ∈ wsX1_lesserStep := by decide +kernel
theorem inX1_lesserStep_X1 : ∀ w ∈ wsX10, w ∈ wsX1_lesserStep := fun w h => List.mem_cons_of_mem _ (List.mem_append_right _ h)
theorem fX1_lesserStep_24 : aFL wsX1_lesserStep RX1 24 1 0 := ⟨_, _, _, rfl, inX1_lesserStep_X1, by decide, by decide +kernel⟩
theorem vX1_lesserStep_52 : aCS wsX1_lesserStep rmX1_lesserStep RX1 52 yX1_has wsX1_has rmX1_has 2 := ⟨_, _, _, _, gX1_lesserStep_X1_has, rfl, rfl, rfl, ⟨by decide +kernel, by decide +kernel, by decide +kernel⟩, by decide⟩
theorem vX1_lesserStep_56 : aCV wsX1_lesserStep rmX1_lesserStep RX1 56 1 yX1_throughStep wsX1_throughStep rmX1_throughStep 3 := ⟨TX1, _, _, _, _, _, rfl, gX1_lesserStep_X1_throughStep, rfl, rfl, rfl, ⟨by decide +kernel, by decide +kernel, by decide +kernel⟩, by decide⟩
end
section
theorem inX2_renew_X2 : ∀ w ∈ wsX20, w ∈ wsX2_renew := fun w h => List.mem_cons_of_mem _ (List.mem_append_right _ h)
theorem pX2_renew_18 : aFP wsX2_renew RX2 18 2 2 false := ⟨_, _, _, tyX2, rfl, inX2_renew_X2, tyX2_ok, nmX2, by decide, by decide +kernel, rfl, rfl⟩
theorem fX2_renew_9 : aFL wsX2_renew RX2 9 2 0 := ⟨_, _, _, rfl, inX2_renew_X2, by decide, by decide +kernel⟩
theorem vX2_renew_34 : aCS wsX2_renew rmX2_renew RX2 34 yJ7_fill_53178 wsJ7_fill_53178 rmJ7_fill_53178 2 := ⟨_, _, _, _, gX2_renew_J7_fill_53178, rfl, rfl, rfl, ⟨by decide +kernel, by decide +kernel, by decide +kernel⟩, by decide⟩
theorem fX2_renew_15 : aFL wsX2_renew RX2 15 2 1 := ⟨_, _, _, rfl, inX2_renew_X2, by decide, by decide +kernel⟩
theorem inX2_places_X2 : ∀ w ∈ wsX20, w ∈ wsX2_places := fun w h => List.mem_cons_of_mem _ (List.mem_append_right _ h)
theorem fX2_places_18 : aFL wsX2_places RX2 18 2 2 := ⟨_, _, _, rfl, inX2_places_X2, by decide, by decide +kernel⟩
theorem inX2_nextLaw_X2 : ∀ w ∈ wsX20, w ∈ wsX2_nextLaw := fun w h => List.mem_cons_of_mem _ (List.mem_append_right _ h)
theorem fX2_nextLaw_22 : aFL wsX2_nextLaw RX2 22 2 3 := ⟨_, _, _, rfl, inX2_nextLaw_X2, by decide, by decide +kernel⟩
theorem inX2_bendLaw_X2 : ∀ w ∈ wsX20, w ∈ wsX2_bendLaw := fun w h => List.mem_cons_of_mem _ (List.mem_append_right _ h)
theorem fX2_bendLaw_25 : aFL wsX2_bendLaw RX2 25 2 4 := ⟨_, _, _, rfl, inX2_bendLaw_X2, by decide, by decide +kernel⟩
theorem inX2_mainSpread_X2 : ∀ w ∈ wsX20, w ∈ wsX2_mainSpread := fun w h => List.mem_cons_of_mem _ (List.mem_append_right _ h)
theorem fX2_mainSpread_28 : aFL wsX2_mainSpread RX2 28 2 5 := ⟨_, _, _, rfl, inX2_mainSpread_X2, by decide, by decide +kernel⟩
theorem inX2_sideSpread_X2 : ∀ w ∈ wsX20, w ∈ wsX2_sideSpread := fun w h => List.mem_cons_of_mem _ (List.mem_append_right _ h)
theorem fX2_sideSpread_40 : aFL wsX2_sideSpread RX2 40 2 6 := ⟨_, _, _, rfl, inX2_sideSpread_X2, by decide, by decide +kernel⟩
theorem inX2_baseOf_X2 : ∀ w ∈ wsX20, w ∈ wsX2_baseOf := fun w h => List.mem_cons_of_mem _ (List.mem_append_right _ h)
theorem fX2_baseOf_9 : aFL wsX2_baseOf RX2 9 2 0 := ⟨_, _, _, rfl, inX2_baseOf_X2, by decide, by decide +kernel⟩
theorem inX2_settingOf_X2 : ∀ w ∈ wsX20, w ∈ wsX2_settingOf := fun w h => List.mem_cons_of_mem _ (List.mem_append_right _ h)
theorem fX2_settingOf_15 : aFL wsX2_settingOf RX2 15 2 1 := ⟨_, _, _, rfl, inX2_settingOf_X2, by decide, by decide +kernel⟩
theorem inX2_putLaws_X2 : ∀ w ∈ wsX20, w ∈ wsX2_putLaws := fun w h => List.mem_cons_of_mem _ (List.mem_append_right _ h)
theorem pX2_putLaws_22 : aFP wsX2_putLaws RX2 22 2 3 false := ⟨_, _, _, tyX2, rfl, inX2_putLaws_X2, tyX2_ok, nmX2, by decide, by decide +kernel, rfl, rfl⟩
theorem pX2_putLaws_25 : aFP wsX2_putLaws RX2 25 2 4 false := ⟨_, _, _, tyX2, rfl, inX2_putLaws_X2, tyX2_ok, nmX2, by decide, by decide +kernel, rfl, rfl⟩
theorem inX2_putSpread_X2 : ∀ w ∈ wsX20, w ∈ wsX2_putSpread := fun w h => List.mem_cons_of_mem _ (List.mem_append_right _ h)
theorem pX2_putSpread_28 : aFP wsX2_putSpread RX2 28 2 5 false := ⟨_, _, _, tyX2, rfl, inX2_putSpread_X2, tyX2_ok, nmX2, by decide, by decide +kernel, rfl, rfl⟩
theorem pX2_putSpread_40 : aFP wsX2_putSpread RX2 40 2 6 false := ⟨_, _, _, tyX2, rfl, inX2_putSpread_X2, tyX2_ok, nmX2, by decide, by decide +kernel, rfl, rfl⟩
theorem inX2_putBase_X2 : ∀ w ∈ wsX20, w ∈ wsX2_putBase := fun w h => List.mem_cons_of_mem _ (List.mem_append_right _ h)
theorem fX2_putBase_9 : aFL wsX2_putBase RX2 9 2 0 := ⟨_, _, _, rfl, inX2_putBase_X2, by decide, by decide +kernel⟩
theorem inX2_trySetting_X2 : ∀ w ∈ wsX20, w ∈ wsX2_trySetting := fun w h => List.mem_cons_of_mem _ (List.mem_append_right _ h)
theorem fX2_trySetting_15 : aFL wsX2_trySetting RX2 15 2 1 := ⟨_, _, _, rfl, inX2_trySetting_X2, by decide, by decide +kernel⟩
theorem fX2_trySetting_22 : aFL wsX2_trySetting RX2 22 2 3 := ⟨_, _, _, rfl, inX2_trySetting_X2, by decide, by decide +kernel⟩
theorem fX2_trySetting_25 : aFL wsX2_trySetting RX2 25 2 4 := ⟨_, _, _, rfl, inX2_trySetting_X2, by decide, by decide +kernel⟩
theorem vX2_trySetting_43 : aCV wsX2_trySetting rmX2_trySetting RX2 43 2 yX2_isLawful wsX2_isLawful rmX2_isLawful 2 := ⟨TX2, _, _, _, _, _, rfl, gX2_trySetting_X2_isLawful, rfl, rfl, rfl, ⟨by decide +kernel, by decide +kernel, by decide +kernel⟩, by decide⟩
theorem inX2_isLawful_X2 : ∀ w ∈ wsX20, w ∈ wsX2_isLawful := fun w h => List.mem_cons_of_mem _ (List.mem_append_right _ h)
theorem fX2_isLawful_18 : aFL wsX2_isLawful RX2 18 2 2 := ⟨_, _, _, rfl, inX2_isLawful_X2, by decide, by decide +kernel⟩
theorem fX2_isLawful_15 : aFL wsX2_isLawful RX2 15 2 1 := ⟨_, _, _, rfl, inX2_isLawful_X2, by decide, by decide +kernel⟩
theorem vX2_isLawful_47 : aMw wsX2_isLawful RX2 47 Lib.Math.abs.name Lib.Math.abs.code 1 := ⟨by decide +kernel, by decide +kernel, by decide +kernel, by decide +kernel⟩
theorem inX2_errorOf_X2 : ∀ w ∈ wsX20, w ∈ wsX2_errorOf := fun w h => List.mem_cons_of_mem _ (List.mem_append_right _ h)
theorem fX2_errorOf_9 : aFL wsX2_errorOf RX2 9 2 0 := ⟨_, _, _, rfl, inX2_errorOf_X2, by decide, by decide +kernel⟩
theorem fX2_errorOf_28 : aFL wsX2_errorOf RX2 28 2 5 := ⟨_, _, _, rfl, inX2_errorOf_X2, by decide, by decide +kernel⟩
theorem fX2_errorOf_15 : aFL wsX2_errorOf RX2 15 2 1 := ⟨_, _, _, rfl, inX2_errorOf_X2, by decide, by decide +kernel⟩
theorem fX2_errorOf_40 : aFL wsX2_errorOf RX2 40 2 6 := ⟨_, _, _, rfl, inX2_errorOf_X2, by decide, by decide +kernel⟩
theorem fX2_errorOf_18 : aFL wsX2_errorOf RX2 18 2 2 := ⟨_, _, _, rfl, inX2_errorOf_X2, by decide, by decide +kernel⟩
theorem vX2_sizeOf_53 : aCV wsX2_sizeOf rmX2_sizeOf RX2 53 2 yX2_errorOf wsX2_errorOf rmX2_errorOf 1 := ⟨TX2, _, _, _, _, _, rfl, gX2_sizeOf_X2_errorOf, rfl, rfl, rfl, ⟨by decide +kernel, by decide +kernel, by decide +kernel⟩, by decide⟩
theorem vX2_sizeOf_47 : aMw wsX2_sizeOf RX2 47 Lib.Math.abs.name Lib.Math.abs.code 1 := ⟨by decide +kernel, by decide +kernel, by decide +kernel, by decide +kernel⟩
theorem inX2_unevenness_X2 : ∀ w ∈ wsX20, w ∈ wsX2_unevenness := fun w h => List.mem_cons_of_mem _ (List.mem_append_right _ h)
theorem fX2_unevenness_18 : aFL wsX2_unevenness RX2 18 2 2 := ⟨_, _, _, rfl, inX2_unevenness_X2, by decide, by decide +kernel⟩
theorem vX2_unevenness_56 : aCV wsX2_unevenness rmX2_unevenness RX2 56 2 yX2_sizeOf wsX2_sizeOf rmX2_sizeOf 1 := ⟨TX2, _, _, _, _, _, rfl, gX2_unevenness_X2_sizeOf, rfl, rfl, rfl, ⟨by decide +kernel, by decide +kernel, by decide +kernel⟩, by decide⟩
theorem vX2_unevenness_59 : aCS wsX2_unevenness rmX2_unevenness RX2 59 yX2_together wsX2_together rmX2_together 3 := ⟨_, _, _, _, gX2_unevenness_X2_together, rfl, rfl, rfl, ⟨by decide +kernel, by decide +kernel, by decide +kernel⟩, by decide⟩
theorem vX2_together_63 : aMw wsX2_together RX2 63 Lib.Math.max.name Lib.Math.max.code 2 := ⟨by decide +kernel, by decide +kernel, by decide +kernel, by decide +kernel⟩
theorem vX2_settle_67 : aCV wsX2_settle rmX2_settle RX2 67 2 yX2_weighLast wsX2_weighLast rmX2_weighLast 0 := ⟨TX2, _, _, _, _, _, rfl, gX2_settle_X2_weighLast, rfl, rfl, rfl, ⟨by decide +kernel, by decide +kernel, by decide +kernel⟩, by decide⟩
theorem inX2_settle_X2 : ∀ w ∈ wsX20, w ∈ wsX2_settle := fun w h => List.mem_cons_of_mem _ (List.mem_append_right _ h)
theorem fX2_settle_18 : aFL wsX2_settle RX2 18 2 2 := ⟨_, _, _, rfl, inX2_settle_X2, by decide, by decide +kernel⟩
theorem vX2_settle_70 : aCV wsX2_settle rmX2_settle RX2 70 2 yX2_weigh wsX2_weigh rmX2_weigh 2 := ⟨TX2, _, _, _, _, _, rfl, gX2_settle_X2_weigh, rfl, rfl, rfl, ⟨by decide +kernel, by decide +kernel, by decide +kernel⟩, by decide⟩
theorem vX2_settle_74 : aCV wsX2_settle rmX2_settle RX2 74 2 yX2_settleFirstTwo wsX2_settleFirstTwo rmX2_settleFirstTwo 1 := ⟨TX2, _, _, _, _, _, rfl, gX2_settle_X2_settleFirstTwo, rfl, rfl, rfl, ⟨by decide +kernel, by decide +kernel, by decide +kernel⟩, by decide⟩
theorem vX2_settle_56 : aCV wsX2_settle rmX2_settle RX2 56 2 yX2_sizeOf wsX2_sizeOf rmX2_sizeOf 1 := ⟨TX2, _, _, _, _, _, rfl, gX2_settle_X2_sizeOf, rfl, rfl, rfl, ⟨by decide +kernel, by decide +kernel, by decide +kernel⟩, by decide⟩
theorem fX2_settle_15 : aFL wsX2_settle RX2 15 2 1 := ⟨_, _, _, rfl, inX2_settle_X2, by decide, by decide +kernel⟩
theorem vX2_settle_78 : aCV wsX2_settle rmX2_settle RX2 78 2 yX2_lesserAfter wsX2_lesserAfter rmX2_lesserAfter 4 := ⟨TX2, _, _, _, _, _, rfl, gX2_settle_X2_lesserAfter, rfl, rfl, rfl, ⟨by decide +kernel, by decide +kernel, by decide +kernel⟩, by decide⟩
theorem vX2_settle_59 : aCS wsX2_settle rmX2_settle RX2 59 yX2_together wsX2_together rmX2_together 3 := ⟨_, _, _, _, gX2_settle_X2_together, rfl, rfl, rfl, ⟨by decide +kernel, by decide +kernel, by decide +kernel⟩, by decide⟩
theorem inX2_weighLast_X2 : ∀ w ∈ wsX20, w ∈ wsX2_weighLast := fun w h => List.mem_cons_of_mem _ (List.mem_append_right _ h)
theorem fX2_weighLast_18 : aFL wsX2_weighLast RX2 18 2 2 := ⟨_, _, _, rfl, inX2_weighLast_X2, by decide, by decide +kernel⟩
theorem fX2_weighLast_31 : aFL wsX2_weighLast RX2 31 2 7 := ⟨_, _, _, rfl, inX2_weighLast_X2, by decide, by decide +kernel⟩
theorem vX2_weighLast_82 : aCS wsX2_weighLast rmX2_weighLast RX2 82 yX2_spot wsX2_spot rmX2_spot 3 := ⟨_, _, _, _, gX2_weighLast_X2_spot, rfl, rfl, rfl, ⟨by decide +kernel, by decide +kernel, by decide +kernel⟩, by decide⟩
theorem fX2_weighLast_9 : aFL wsX2_weighLast RX2 9 2 0 := ⟨_, _, _, rfl, inX2_weighLast_X2, by decide, by decide +kernel⟩
theorem fX2_weighLast_28 : aFL wsX2_weighLast RX2 28 2 5 := ⟨_, _, _, rfl, inX2_weighLast_X2, by decide, by decide +kernel⟩
theorem fX2_weighLast_40 : aFL wsX2_weighLast RX2 40 2 6 := ⟨_, _, _, rfl, inX2_weighLast_X2, by decide, by decide +kernel⟩
theorem vX2_weighLast_47 : aMw wsX2_weighLast RX2 47 Lib.Math.abs.name Lib.Math.abs.code 1 := ⟨by decide +kernel, by decide +kernel, by decide +kernel, by decide +kernel⟩
theorem inX2_weigh_X2 : ∀ w ∈ wsX20, w ∈ wsX2_weigh := fun w h => List.mem_cons_of_mem _ (List.mem_append_right _ h)
theorem fX2_weigh_22 : aFL wsX2_weigh RX2 22 2 3 := ⟨_, _, _, rfl, inX2_weigh_X2, by decide, by decide +kernel⟩
theorem vX2_weigh_63 : aMw wsX2_weigh RX2 63 Lib.Math.max.name Lib.Math.max.code 2 := ⟨by decide +kernel, by decide +kernel, by decide +kernel, by decide +kernel⟩
theorem vX2_weigh_86 : aMw wsX2_weigh RX2 86 Lib.Math.min.name Lib.Math.min.code 2 := ⟨by decide +kernel, by decide +kernel, by decide +kernel, by decide +kernel⟩
theorem fX2_weigh_31 : aFL wsX2_weigh RX2 31 2 7 := ⟨_, _, _, rfl, inX2_weigh_X2, by decide, by decide +kernel⟩
theorem vX2_weigh_82 : aCS wsX2_weigh rmX2_weigh RX2 82 yX2_spot wsX2_spot rmX2_spot 3 := ⟨_, _, _, _, gX2_weigh_X2_spot, rfl, rfl, rfl, ⟨by decide +kernel, by decide +kernel, by decide +kernel⟩, by decide⟩
theorem vX2_weigh_89 : aCV wsX2_weigh rmX2_weigh RX2 89 2 yX2_leastRest wsX2_leastRest rmX2_leastRest 4 := ⟨TX2, _, _, _, _, _, rfl, gX2_weigh_X2_leastRest, rfl, rfl, rfl, ⟨by decide +kernel, by decide +kernel, by decide +kernel⟩, by decide⟩
theorem kX2_leastRest_92 : Cond.constant RX2 92 (i3 (1000000)) ∈ wsX2_leastRest := by decide +kernel
theorem inX2_leastRest_X2 : ∀ w ∈ wsX20, w ∈ wsX2_leastRest := fun w h => List.mem_cons_of_mem _ (List.mem_append_right _ h)
theorem fX2_leastRest_9 : aFL wsX2_leastRest RX2 9 2 0 := ⟨_, _, _, rfl, inX2_leastRest_X2, by decide, by decide +kernel⟩
theorem fX2_leastRest_28 : aFL wsX2_leastRest RX2 28 2 5 := ⟨_, _, _, rfl, inX2_leastRest_X2, by decide, by decide +kernel⟩
theorem fX2_leastRest_40 : aFL wsX2_leastRest RX2 40 2 6 := ⟨_, _, _, rfl, inX2_leastRest_X2, by decide, by decide +kernel⟩
theorem vX2_leastRest_82 : aCS wsX2_leastRest rmX2_leastRest RX2 82 yX2_spot wsX2_spot rmX2_spot 3 := ⟨_, _, _, _, gX2_leastRest_X2_spot, rfl, rfl, rfl, ⟨by decide +kernel, by decide +kernel, by decide +kernel⟩, by decide⟩
theorem vX2_leastRest_93 : aCV wsX2_leastRest rmX2_leastRest RX2 93 2 yX2_highestAfter wsX2_highestAfter rmX2_highestAfter 2 := ⟨TX2, _, _, _, _, _, rfl, gX2_leastRest_X2_highestAfter, rfl, rfl, rfl, ⟨by decide +kernel, by decide +kernel, by decide +kernel⟩, by decide⟩
theorem vX2_leastRest_96 : aCV wsX2_leastRest rmX2_leastRest RX2 96 2 yX2_lowestAfter wsX2_lowestAfter rmX2_lowestAfter 2 := ⟨TX2, _, _, _, _, _, rfl, gX2_leastRest_X2_lowestAfter, rfl, rfl, rfl, ⟨by decide +kernel, by decide +kernel, by decide +kernel⟩, by decide⟩
theorem fX2_leastRest_31 : aFL wsX2_leastRest RX2 31 2 7 := ⟨_, _, _, rfl, inX2_leastRest_X2, by decide, by decide +kernel⟩
theorem kX2_settleFirstTwo_92 : Cond.constant RX2 92 (i3 (1000000)) ∈ wsX2_settleFirstTwo := by decide +kernel
theorem inX2_settleFirstTwo_X2 : ∀ w ∈ wsX20, w ∈ wsX2_settleFirstTwo := fun w h => List.mem_cons_of_mem _ (List.mem_append_right _ h)
theorem fX2_settleFirstTwo_22 : aFL wsX2_settleFirstTwo RX2 22 2 3 := ⟨_, _, _, rfl, inX2_settleFirstTwo_X2, by decide, by decide +kernel⟩
theorem vX2_settleFirstTwo_86 : aMw wsX2_settleFirstTwo RX2 86 Lib.Math.min.name Lib.Math.min.code 2 := ⟨by decide +kernel, by decide +kernel, by decide +kernel, by decide +kernel⟩
theorem vX2_settleFirstTwo_63 : aMw wsX2_settleFirstTwo RX2 63 Lib.Math.max.name Lib.Math.max.code 2 := ⟨by decide +kernel, by decide +kernel, by decide +kernel, by decide +kernel⟩
theorem fX2_settleFirstTwo_9 : aFL wsX2_settleFirstTwo RX2 9 2 0 := ⟨_, _, _, rfl, inX2_settleFirstTwo_X2, by decide, by decide +kernel⟩
theorem fX2_settleFirstTwo_28 : aFL wsX2_settleFirstTwo RX2 28 2 5 := ⟨_, _, _, rfl, inX2_settleFirstTwo_X2, by decide, by decide +kernel⟩
theorem fX2_settleFirstTwo_40 : aFL wsX2_settleFirstTwo RX2 40 2 6 := ⟨_, _, _, rfl, inX2_settleFirstTwo_X2, by decide, by decide +kernel⟩
theorem vX2_settleFirstTwo_47 : aMw wsX2_settleFirstTwo RX2 47 Lib.Math.abs.name Lib.Math.abs.code 1 := ⟨by decide +kernel, by decide +kernel, by decide +kernel, by decide +kernel⟩
theorem fX2_settleFirstTwo_31 : aFL wsX2_settleFirstTwo RX2 31 2 7 := ⟨_, _, _, rfl, inX2_settleFirstTwo_X2, by decide, by decide +kernel⟩
theorem vX2_settleFirstTwo_82 : aCS wsX2_settleFirstTwo rmX2_settleFirstTwo RX2 82 yX2_spot wsX2_spot rmX2_spot 3 := ⟨_, _, _, _, gX2_settleFirstTwo_X2_spot, rfl, rfl, rfl, ⟨by decide +kernel, by decide +kernel, by decide +kernel⟩, by decide⟩
theorem vX2_settleFirstTwo_59 : aCS wsX2_settleFirstTwo rmX2_settleFirstTwo RX2 59 yX2_together wsX2_together rmX2_together 3 := ⟨_, _, _, _, gX2_settleFirstTwo_X2_together, rfl, rfl, rfl, ⟨by decide +kernel, by decide +kernel, by decide +kernel⟩, by decide⟩
theorem fX2_settleFirstTwo_15 : aFL wsX2_settleFirstTwo RX2 15 2 1 := ⟨_, _, _, rfl, inX2_settleFirstTwo_X2, by decide, by decide +kernel⟩
theorem inX2_lesserAfter_X2 : ∀ w ∈ wsX20, w ∈ wsX2_lesserAfter := fun w h => List.mem_cons_of_mem _ (List.mem_append_right _ h)
theorem fX2_lesserAfter_15 : aFL wsX2_lesserAfter RX2 15 2 1 := ⟨_, _, _, rfl, inX2_lesserAfter_X2, by decide, by decide +kernel⟩
theorem fX2_lesserAfter_9 : aFL wsX2_lesserAfter RX2 9 2 0 := ⟨_, _, _, rfl, inX2_lesserAfter_X2, by decide, by decide +kernel⟩
theorem fX2_lesserAfter_28 : aFL wsX2_lesserAfter RX2 28 2 5 := ⟨_, _, _, rfl, inX2_lesserAfter_X2, by decide, by decide +kernel⟩
theorem fX2_lesserAfter_40 : aFL wsX2_lesserAfter RX2 40 2 6 := ⟨_, _, _, rfl, inX2_lesserAfter_X2, by decide, by decide +kernel⟩
theorem vX2_lesserAfter_82 : aCS wsX2_lesserAfter rmX2_lesserAfter RX2 82 yX2_spot wsX2_spot rmX2_spot 3 := ⟨_, _, _, _, gX2_lesserAfter_X2_spot, rfl, rfl, rfl, ⟨by decide +kernel, by decide +kernel, by decide +kernel⟩, by decide⟩
theorem vX2_lesserAfter_93 : aCV wsX2_lesserAfter rmX2_lesserAfter RX2 93 2 yX2_highestAfter wsX2_highestAfter rmX2_highestAfter 2 := ⟨TX2, _, _, _, _, _, rfl, gX2_lesserAfter_X2_highestAfter, rfl, rfl, rfl, ⟨by decide +kernel, by decide +kernel, by decide +kernel⟩, by decide⟩
theorem vX2_lesserAfter_96 : aCV wsX2_lesserAfter rmX2_lesserAfter RX2 96 2 yX2_lowestAfter wsX2_lowestAfter rmX2_lowestAfter 2 := ⟨TX2, _, _, _, _, _, rfl, gX2_lesserAfter_X2_lowestAfter, rfl, rfl, rfl, ⟨by decide +kernel, by decide +kernel, by decide +kernel⟩, by decide⟩
theorem vX2_lesserAfter_47 : aMw wsX2_lesserAfter RX2 47 Lib.Math.abs.name Lib.Math.abs.code 1 := ⟨by decide +kernel, by decide +kernel, by decide +kernel, by decide +kernel⟩
theorem vX2_lesserAfter_59 : aCS wsX2_lesserAfter rmX2_lesserAfter RX2 59 yX2_together wsX2_together rmX2_together 3 := ⟨_, _, _, _, gX2_lesserAfter_X2_together, rfl, rfl, rfl, ⟨by decide +kernel, by decide +kernel, by decide +kernel⟩, by decide⟩
theorem fX2_lesserAfter_31 : aFL wsX2_lesserAfter RX2 31 2 7 := ⟨_, _, _, rfl, inX2_lesserAfter_X2, by decide, by decide +kernel⟩
theorem inX2_lowestAfter_X2 : ∀ w ∈ wsX20, w ∈ wsX2_lowestAfter := fun w h => List.mem_cons_of_mem _ (List.mem_append_right _ h)
theorem fX2_lowestAfter_22 : aFL wsX2_lowestAfter RX2 22 2 3 := ⟨_, _, _, rfl, inX2_lowestAfter_X2, by decide, by decide +kernel⟩
theorem fX2_lowestAfter_25 : aFL wsX2_lowestAfter RX2 25 2 4 := ⟨_, _, _, rfl, inX2_lowestAfter_X2, by decide, by decide +kernel⟩
theorem vX2_lowestAfter_63 : aMw wsX2_lowestAfter RX2 63 Lib.Math.max.name Lib.Math.max.code 2 := ⟨by decide +kernel, by decide +kernel, by decide +kernel, by decide +kernel⟩
theorem inX2_highestAfter_X2 : ∀ w ∈ wsX20, w ∈ wsX2_highestAfter := fun w h => List.mem_cons_of_mem _ (List.mem_append_right _ h)
theorem fX2_highestAfter_22 : aFL wsX2_highestAfter RX2 22 2 3 := ⟨_, _, _, rfl, inX2_highestAfter_X2, by decide, by decide +kernel⟩
theorem fX2_highestAfter_25 : aFL wsX2_highestAfter RX2 25 2 4 := ⟨_, _, _, rfl, inX2_highestAfter_X2, by decide, by decide +kernel⟩
theorem vX2_highestAfter_86 : aMw wsX2_highestAfter RX2 86 Lib.Math.min.name Lib.Math.min.code 2 := ⟨by decide +kernel, by decide +kernel, by decide +kernel, by decide +kernel⟩
end
section
theorem inX3_forget_X3 : ∀ w ∈ wsX30, w ∈ wsX3_forget := fun w h => List.mem_cons_of_mem _ (List.mem_append_right _ h)
theorem pX3_forget_31 : aFP wsX3_forget RX3 31 3 4 false := ⟨_, _, _, tyX3, rfl, inX3_forget_X3, tyX3_ok, nmX3, by decide, by decide +kernel, rfl, rfl⟩
theorem inX3_count_X3 : ∀ w ∈ wsX30, w ∈ wsX3_count := fun w h => List.mem_cons_of_mem _ (List.mem_append_right _ h)
theorem fX3_count_31 : aFL wsX3_count RX3 31 3 4 := ⟨_, _, _, rfl, inX3_count_X3, by decide, by decide +kernel⟩
theorem inX3_add_X3 : ∀ w ∈ wsX30, w ∈ wsX3_add := fun w h => List.mem_cons_of_mem _ (List.mem_append_right _ h)
theorem fX3_add_9 : aFL wsX3_add RX3 9 3 1 := ⟨_, _, _, rfl, inX3_add_X3, by decide, by decide +kernel⟩
theorem fX3_add_31 : aFL wsX3_add RX3 31 3 4 := ⟨_, _, _, rfl, inX3_add_X3, by decide, by decide +kernel⟩
theorem fX3_add_15 : aFL wsX3_add RX3 15 3 2 := ⟨_, _, _, rfl, inX3_add_X3, by decide, by decide +kernel⟩
theorem fX3_add_18 : aFL wsX3_add RX3 18 3 3 := ⟨_, _, _, rfl, inX3_add_X3, by decide, by decide +kernel⟩
theorem pX3_add_31 : aFP wsX3_add RX3 31 3 4 false := ⟨_, _, _, tyX3, rfl, inX3_add_X3, tyX3_ok, nmX3, by decide, by decide +kernel, rfl, rfl⟩
theorem inX3_lies_X3 : ∀ w ∈ wsX30, w ∈ wsX3_lies := fun w h => List.mem_cons_of_mem _ (List.mem_append_left _ (List.mem_append_right _ h))
theorem fX3_lies_9 : aFL wsX3_lies RX3 9 3 1 := ⟨_, _, _, rfl, inX3_lies_X3, by decide, by decide +kernel⟩
theorem fX3_lies_27 : aFL wsX3_lies RX3 27 3 0 := ⟨_, _, _, rfl, inX3_lies_X3, by decide, by decide +kernel⟩
theorem vX3_lies_35 : aCV wsX3_lies rmX3_lies RX3 35 2 yX2_places wsX2_places rmX2_places 0 := ⟨TX2, _, _, _, _, _, rfl, gX3_lies_X2_places, rfl, rfl, rfl, ⟨by decide +kernel, by decide +kernel, by decide +kernel⟩, by decide⟩
theorem vX3_lies_41 : aCV wsX3_lies rmX3_lies RX3 41 2 yX2_sizeOf wsX2_sizeOf rmX2_sizeOf 1 := ⟨TX2, _, _, _, _, _, rfl, gX3_lies_X2_sizeOf, rfl, rfl, rfl, ⟨by decide +kernel, by decide +kernel, by decide +kernel⟩, by decide⟩
theorem fX3_lies_18 : aFL wsX3_lies RX3 18 3 3 := ⟨_, _, _, rfl, inX3_lies_X3, by decide, by decide +kernel⟩
theorem inX3_plan_X3 : ∀ w ∈ wsX30, w ∈ wsX3_plan := fun w h => List.mem_cons_of_mem _ (List.mem_append_left _ (List.mem_append_right _ h))
theorem fX3_plan_27 : aFL wsX3_plan RX3 27 3 0 := ⟨_, _, _, rfl, inX3_plan_X3, by decide, by decide +kernel⟩
theorem vX3_plan_35 : aCV wsX3_plan rmX3_plan RX3 35 2 yX2_places wsX2_places rmX2_places 0 := ⟨TX2, _, _, _, _, _, rfl, gX3_plan_X2_places, rfl, rfl, rfl, ⟨by decide +kernel, by decide +kernel, by decide +kernel⟩, by decide⟩
theorem fX3_plan_21 : aFL wsX3_plan RX3 21 3 5 := ⟨_, _, _, rfl, inX3_plan_X3, by decide, by decide +kernel⟩
theorem vX3_plan_45 : aCV wsX3_plan rmX3_plan RX3 45 3 yX3_weigh wsX3_weigh rmX3_weigh 1 := ⟨TX3, _, _, _, _, _, rfl, gX3_plan_X3_weigh, rfl, rfl, rfl, ⟨by decide +kernel, by decide +kernel, by decide +kernel⟩, by decide⟩
theorem vX3_plan_49 : aCV wsX3_plan rmX3_plan RX3 49 3 yX3_dropCovered wsX3_dropCovered rmX3_dropCovered 1 := ⟨TX3, _, _, _, _, _, rfl, gX3_plan_X3_dropCovered, rfl, rfl, rfl, ⟨by decide +kernel, by decide +kernel, by decide +kernel⟩, by decide⟩
theorem inX3_weigh_X3 : ∀ w ∈ wsX30, w ∈ wsX3_weigh := fun w h => List.mem_cons_of_mem _ (List.mem_append_left _ (List.mem_append_right _ h))
theorem fX3_weigh_21 : aFL wsX3_weigh RX3 21 3 5 := ⟨_, _, _, rfl, inX3_weigh_X3, by decide, by decide +kernel⟩
theorem fX3_weigh_31 : aFL wsX3_weigh RX3 31 3 4 := ⟨_, _, _, rfl, inX3_weigh_X3, by decide, by decide +kernel⟩
theorem vX3_weigh_52 : aCV wsX3_weigh rmX3_weigh RX3 52 3 yX3_lies wsX3_lies rmX3_lies 2 := ⟨TX3, _, _, _, _, _, rfl, gX3_weigh_X3_lies, rfl, rfl, rfl, ⟨by decide +kernel, by decide +kernel, by decide +kernel⟩, by decide⟩
theorem fX3_weigh_15 : aFL wsX3_weigh RX3 15 3 2 := ⟨_, _, _, rfl, inX3_weigh_X3, by decide, by decide +kernel⟩
theorem fX3_weigh_9 : aFL wsX3_weigh RX3 9 3 1 := ⟨_, _, _, rfl, inX3_weigh_X3, by decide, by decide +kernel⟩
theorem fX3_weigh_24 : aFL wsX3_weigh RX3 24 3 6 := ⟨_, _, _, rfl, inX3_weigh_X3, by decide, by decide +kernel⟩
theorem inX3_dropCovered_X3 : ∀ w ∈ wsX30, w ∈ wsX3_dropCovered := fun w h => List.mem_cons_of_mem _ (List.mem_append_right _ h)
theorem fX3_dropCovered_24 : aFL wsX3_dropCovered RX3 24 3 6 := ⟨_, _, _, rfl, inX3_dropCovered_X3, by decide, by decide +kernel⟩
theorem fX3_dropCovered_9 : aFL wsX3_dropCovered RX3 9 3 1 := ⟨_, _, _, rfl, inX3_dropCovered_X3, by decide, by decide +kernel⟩
theorem inX3_plannedAt_X3 : ∀ w ∈ wsX30, w ∈ wsX3_plannedAt := fun w h => List.mem_cons_of_mem _ (List.mem_append_right _ h)
theorem fX3_plannedAt_24 : aFL wsX3_plannedAt RX3 24 3 6 := ⟨_, _, _, rfl, inX3_plannedAt_X3, by decide, by decide +kernel⟩
end
section
theorem vX4_sheet_39 : aCS wsX4_sheet rmX4_sheet RX4 39 yX4_within wsX4_within rmX4_within 3 := ⟨_, _, _, _, gX4_sheet_X4_within, rfl, rfl, rfl, ⟨by decide +kernel, by decide +kernel, by decide +kernel⟩, by decide⟩
theorem inX4_sheet_X4 : ∀ w ∈ wsX40, w ∈ wsX4_sheet := fun w h => List.mem_cons_of_mem _ (List.mem_append_left _ (List.mem_append_left _ (List.mem_append_left _ (List.mem_append_right _ h))))
theorem fX4_sheet_19 : aFL wsX4_sheet RX4 19 4 1 := ⟨_, _, _, rfl, inX4_sheet_X4, by decide, by decide +kernel⟩
theorem vX4_sheet_43 : aCV wsX4_sheet rmX4_sheet RX4 43 2 yX2_places wsX2_places rmX2_places 0 := ⟨TX2, _, _, _, _, _, rfl, gX4_sheet_X2_places, rfl, rfl, rfl, ⟨by decide +kernel, by decide +kernel, by decide +kernel⟩, by decide⟩
theorem fX4_sheet_10 : aFL wsX4_sheet RX4 10 4 0 := ⟨_, _, _, rfl, inX4_sheet_X4, by decide, by decide +kernel⟩
theorem vX4_sheet_47 : aCV wsX4_sheet rmX4_sheet RX4 47 0 yX0_forget wsX0_forget rmX0_forget 0 := ⟨TX0, _, _, _, _, _, rfl, gX4_sheet_X0_forget, rfl, rfl, rfl, ⟨by decide +kernel, by decide +kernel, by decide +kernel⟩, by decide⟩
theorem fX4_sheet_28 : aFL wsX4_sheet RX4 28 4 2 := ⟨_, _, _, rfl, inX4_sheet_X4, by decide, by decide +kernel⟩
theorem vX4_sheet_50 : aCV wsX4_sheet rmX4_sheet RX4 50 3 yX3_forget wsX3_forget rmX3_forget 0 := ⟨TX3, _, _, _, _, _, rfl, gX4_sheet_X3_forget, rfl, rfl, rfl, ⟨by decide +kernel, by decide +kernel, by decide +kernel⟩, by decide⟩
theorem vX4_sheet_51 : aCV wsX4_sheet rmX4_sheet RX4 51 2 yX2_renew wsX2_renew rmX2_renew 1 := ⟨TX2, _, _, _, _, _, rfl, gX4_sheet_X2_renew, rfl, rfl, rfl, ⟨by decide +kernel, by decide +kernel, by decide +kernel⟩, by decide⟩
theorem vX4_read_55 : aCV wsX4_read rmX4_read RX4 55 4 yX4_isPlace wsX4_isPlace rmX4_isPlace 1 := ⟨TX4, _, _, _, _, _, rfl, gX4_read_X4_isPlace, rfl, rfl, rfl, ⟨by decide +kernel, by decide +kernel, by decide +kernel⟩, by decide⟩
theorem vX4_read_59 : aCS wsX4_read rmX4_read RX4 59 yX4_isTime wsX4_isTime rmX4_isTime 1 := ⟨_, _, _, _, gX4_read_X4_isTime, rfl, rfl, rfl, ⟨by decide +kernel, by decide +kernel, by decide +kernel⟩, by decide⟩
theorem vX4_read_39 : aCS wsX4_read rmX4_read RX4 39 yX4_within wsX4_within rmX4_within 3 := ⟨_, _, _, _, gX4_read_X4_within, rfl, rfl, rfl, ⟨by decide +kernel, by decide +kernel, by decide +kernel⟩, by decide⟩
theorem inX4_read_X4 : ∀ w ∈ wsX40, w ∈ wsX4_read := fun w h => List.mem_cons_of_mem _ (List.mem_append_left _ (List.mem_append_left _ (List.mem_append_right _ h)))
theorem fX4_read_10 : aFL wsX4_read RX4 10 4 0 := ⟨_, _, _, rfl, inX4_read_X4, by decide, by decide +kernel⟩
theorem vX4_read_62 : aCV wsX4_read rmX4_read RX4 62 0 yX0_count wsX0_count rmX0_count 0 := ⟨TX0, _, _, _, _, _, rfl, gX4_read_X0_count, rfl, rfl, rfl, ⟨by decide +kernel, by decide +kernel, by decide +kernel⟩, by decide⟩
theorem vX4_read_65 : aCV wsX4_read rmX4_read RX4 65 0 yX0_add wsX0_add rmX0_add 3 := ⟨TX0, _, _, _, _, _, rfl, gX4_read_X0_add, rfl, rfl, rfl, ⟨by decide +kernel, by decide +kernel, by decide +kernel⟩, by decide⟩
theorem inX4_reading_X4 : ∀ w ∈ wsX40, w ∈ wsX4_reading := fun w h => List.mem_cons_of_mem _ (List.mem_append_left _ (List.mem_append_right _ h))
theorem fX4_reading_10 : aFL wsX4_reading RX4 10 4 0 := ⟨_, _, _, rfl, inX4_reading_X4, by decide, by decide +kernel⟩
theorem vX4_reading_62 : aCV wsX4_reading rmX4_reading RX4 62 0 yX0_count wsX0_count rmX0_count 0 := ⟨TX0, _, _, _, _, _, rfl, gX4_reading_X0_count, rfl, rfl, rfl, ⟨by decide +kernel, by decide +kernel, by decide +kernel⟩, by decide⟩
theorem vX4_reading_39 : aCS wsX4_reading rmX4_reading RX4 39 yX4_within wsX4_within rmX4_within 3 := ⟨_, _, _, _, gX4_reading_X4_within, rfl, rfl, rfl, ⟨by decide +kernel, by decide +kernel, by decide +kernel⟩, by decide⟩
theorem kX4_reading_68 : Cond.constant RX4 68 (i3 (-1000001)) ∈ wsX4_reading := by decide +kernel
theorem vX4_reading_69 : aCV wsX4_reading rmX4_reading RX4 69 0 yX0_timeOf wsX0_timeOf rmX0_timeOf 1 := ⟨TX0, _, _, _, _, _, rfl, gX4_reading_X0_timeOf, rfl, rfl, rfl, ⟨by decide +kernel, by decide +kernel, by decide +kernel⟩, by decide⟩
theorem vX4_reading_73 : aCV wsX4_reading rmX4_reading RX4 73 0 yX0_placeOf wsX0_placeOf rmX0_placeOf 1 := ⟨TX0, _, _, _, _, _, rfl, gX4_reading_X0_placeOf, rfl, rfl, rfl, ⟨by decide +kernel, by decide +kernel, by decide +kernel⟩, by decide⟩
theorem vX4_reading_76 : aCV wsX4_reading rmX4_reading RX4 76 0 yX0_valueOf wsX0_valueOf rmX0_valueOf 1 := ⟨TX0, _, _, _, _, _, rfl, gX4_reading_X0_valueOf, rfl, rfl, rfl, ⟨by decide +kernel, by decide +kernel, by decide +kernel⟩, by decide⟩
theorem vX4_reading_79 : aCV wsX4_reading rmX4_reading RX4 79 0 yX0_isFitting wsX0_isFitting rmX0_isFitting 1 := ⟨TX0, _, _, _, _, _, rfl, gX4_reading_X0_isFitting, rfl, rfl, rfl, ⟨by decide +kernel, by decide +kernel, by decide +kernel⟩, by decide⟩
theorem kX4_reading_82 : Cond.constant RX4 82 (i3 (-1000002)) ∈ wsX4_reading := by decide +kernel
theorem vX4_across_55 : aCV wsX4_across rmX4_across RX4 55 4 yX4_isPlace wsX4_isPlace rmX4_isPlace 1 := ⟨TX4, _, _, _, _, _, rfl, gX4_across_X4_isPlace, rfl, rfl, rfl, ⟨by decide +kernel, by decide +kernel, by decide +kernel⟩, by decide⟩
theorem kX4_across_68 : Cond.constant RX4 68 (i3 (-1000001)) ∈ wsX4_across := by decide +kernel
theorem inX4_across_X4 : ∀ w ∈ wsX40, w ∈ wsX4_across := fun w h => List.mem_cons_of_mem _ (List.mem_append_left _ (List.mem_append_left _ (List.mem_append_right _ h)))
theorem fX4_across_10 : aFL wsX4_across RX4 10 4 0 := ⟨_, _, _, rfl, inX4_across_X4, by decide, by decide +kernel⟩
theorem vX4_across_83 : aCV wsX4_across rmX4_across RX4 83 0 yX0_hasAcross wsX0_hasAcross rmX0_hasAcross 1 := ⟨TX0, _, _, _, _, _, rfl, gX4_across_X0_hasAcross, rfl, rfl, rfl, ⟨by decide +kernel, by decide +kernel, by decide +kernel⟩, by decide⟩
theorem vX4_across_86 : aCV wsX4_across rmX4_across RX4 86 0 yX0_acrossOf wsX0_acrossOf rmX0_acrossOf 1 := ⟨TX0, _, _, _, _, _, rfl, gX4_across_X0_acrossOf, rfl, rfl, rfl, ⟨by decide +kernel, by decide +kernel, by decide +kernel⟩, by decide⟩
theorem kX4_across_89 : Cond.constant RX4 89 (i3 (-1000005)) ∈ wsX4_across := by decide +kernel
theorem vX4_along_59 : aCS wsX4_along rmX4_along RX4 59 yX4_isTime wsX4_isTime rmX4_isTime 1 := ⟨_, _, _, _, gX4_along_X4_isTime, rfl, rfl, rfl, ⟨by decide +kernel, by decide +kernel, by decide +kernel⟩, by decide⟩
theorem kX4_along_68 : Cond.constant RX4 68 (i3 (-1000001)) ∈ wsX4_along := by decide +kernel
theorem inX4_along_X4 : ∀ w ∈ wsX40, w ∈ wsX4_along := fun w h => List.mem_cons_of_mem _ (List.mem_append_left _ (List.mem_append_right _ h))
theorem fX4_along_10 : aFL wsX4_along RX4 10 4 0 := ⟨_, _, _, rfl, inX4_along_X4, by decide, by decide +kernel⟩
theorem vX4_along_90 : aCV wsX4_along rmX4_along RX4 90 0 yX0_timesHangTogether wsX0_timesHangTogether rmX0_timesHangTogether 2 := ⟨TX0, _, _, _, _, _, rfl, gX4_along_X0_timesHangTogether, rfl, rfl, rfl, ⟨by decide +kernel, by decide +kernel, by decide +kernel⟩, by decide⟩
theorem vX4_along_94 : aCV wsX4_along rmX4_along RX4 94 0 yX0_moreAlong wsX0_moreAlong rmX0_moreAlong 2 := ⟨TX0, _, _, _, _, _, rfl, gX4_along_X0_moreAlong, rfl, rfl, rfl, ⟨by decide +kernel, by decide +kernel, by decide +kernel⟩, by decide⟩
theorem kX4_along_89 : Cond.constant RX4 89 (i3 (-1000005)) ∈ wsX4_along := by decide +kernel
theorem inX4_groups_X4 : ∀ w ∈ wsX40, w ∈ wsX4_groups := fun w h => List.mem_cons_of_mem _ (List.mem_append_left _ (List.mem_append_left _ (List.mem_append_right _ h)))
theorem fX4_groups_10 : aFL wsX4_groups RX4 10 4 0 := ⟨_, _, _, rfl, inX4_groups_X4, by decide, by decide +kernel⟩
theorem fX4_groups_19 : aFL wsX4_groups RX4 19 4 1 := ⟨_, _, _, rfl, inX4_groups_X4, by decide, by decide +kernel⟩
theorem vX4_groups_43 : aCV wsX4_groups rmX4_groups RX4 43 2 yX2_places wsX2_places rmX2_places 0 := ⟨TX2, _, _, _, _, _, rfl, gX4_groups_X2_places, rfl, rfl, rfl, ⟨by decide +kernel, by decide +kernel, by decide +kernel⟩, by decide⟩
theorem vX4_groups_98 : aCV wsX4_groups rmX4_groups RX4 98 0 yX0_countGroups wsX0_countGroups rmX0_countGroups 1 := ⟨TX0, _, _, _, _, _, rfl, gX4_groups_X0_countGroups, rfl, rfl, rfl, ⟨by decide +kernel, by decide +kernel, by decide +kernel⟩, by decide⟩
theorem inX4_take_X4 : ∀ w ∈ wsX40, w ∈ wsX4_take := fun w h => List.mem_cons_of_mem _ (List.mem_append_left _ (List.mem_append_left _ (List.mem_append_right _ h)))
theorem fX4_take_19 : aFL wsX4_take RX4 19 4 1 := ⟨_, _, _, rfl, inX4_take_X4, by decide, by decide +kernel⟩
theorem vX4_take_43 : aCV wsX4_take rmX4_take RX4 43 2 yX2_places wsX2_places rmX2_places 0 := ⟨TX2, _, _, _, _, _, rfl, gX4_take_X2_places, rfl, rfl, rfl, ⟨by decide +kernel, by decide +kernel, by decide +kernel⟩, by decide⟩
theorem fX4_take_10 : aFL wsX4_take RX4 10 4 0 := ⟨_, _, _, rfl, inX4_take_X4, by decide, by decide +kernel⟩
theorem vX4_take_83 : aCV wsX4_take rmX4_take RX4 83 0 yX0_hasAcross wsX0_hasAcross rmX0_hasAcross 1 := ⟨TX0, _, _, _, _, _, rfl, gX4_take_X0_hasAcross, rfl, rfl, rfl, ⟨by decide +kernel, by decide +kernel, by decide +kernel⟩, by decide⟩
theorem vX4_take_86 : aCV wsX4_take rmX4_take RX4 86 0 yX0_acrossOf wsX0_acrossOf rmX0_acrossOf 1 := ⟨TX0, _, _, _, _, _, rfl, gX4_take_X0_acrossOf, rfl, rfl, rfl, ⟨by decide +kernel, by decide +kernel, by decide +kernel⟩, by decide⟩
theorem vX4_take_39 : aCS wsX4_take rmX4_take RX4 39 yX4_within wsX4_within rmX4_within 3 := ⟨_, _, _, _, gX4_take_X4_within, rfl, rfl, rfl, ⟨by decide +kernel, by decide +kernel, by decide +kernel⟩, by decide⟩
theorem vX4_take_101 : aCV wsX4_take rmX4_take RX4 101 2 yX2_putBase wsX2_putBase rmX2_putBase 2 := ⟨TX2, _, _, _, _, _, rfl, gX4_take_X2_putBase, rfl, rfl, rfl, ⟨by decide +kernel, by decide +kernel, by decide +kernel⟩, by decide⟩
theorem inX4_clear_X4 : ∀ w ∈ wsX40, w ∈ wsX4_clear := fun w h => List.mem_cons_of_mem _ (List.mem_append_left _ (List.mem_append_right _ h))
theorem fX4_clear_10 : aFL wsX4_clear RX4 10 4 0 := ⟨_, _, _, rfl, inX4_clear_X4, by decide, by decide +kernel⟩
theorem vX4_clear_62 : aCV wsX4_clear rmX4_clear RX4 62 0 yX0_count wsX0_count rmX0_count 0 := ⟨TX0, _, _, _, _, _, rfl, gX4_clear_X0_count, rfl, rfl, rfl, ⟨by decide +kernel, by decide +kernel, by decide +kernel⟩, by decide⟩
theorem vX4_clear_47 : aCV wsX4_clear rmX4_clear RX4 47 0 yX0_forget wsX0_forget rmX0_forget 0 := ⟨TX0, _, _, _, _, _, rfl, gX4_clear_X0_forget, rfl, rfl, rfl, ⟨by decide +kernel, by decide +kernel, by decide +kernel⟩, by decide⟩
theorem vX4_laws_39 : aCS wsX4_laws rmX4_laws RX4 39 yX4_within wsX4_within rmX4_within 3 := ⟨_, _, _, _, gX4_laws_X4_within, rfl, rfl, rfl, ⟨by decide +kernel, by decide +kernel, by decide +kernel⟩, by decide⟩
theorem inX4_laws_X4 : ∀ w ∈ wsX40, w ∈ wsX4_laws := fun w h => List.mem_cons_of_mem _ (List.mem_append_left _ (List.mem_append_right _ h))
theorem fX4_laws_19 : aFL wsX4_laws RX4 19 4 1 := ⟨_, _, _, rfl, inX4_laws_X4, by decide, by decide +kernel⟩
theorem vX4_laws_105 : aCV wsX4_laws rmX4_laws RX4 105 2 yX2_isLawful wsX2_isLawful rmX2_isLawful 2 := ⟨TX2, _, _, _, _, _, rfl, gX4_laws_X2_isLawful, rfl, rfl, rfl, ⟨by decide +kernel, by decide +kernel, by decide +kernel⟩, by decide⟩
theorem vX4_laws_108 : aCV wsX4_laws rmX4_laws RX4 108 2 yX2_putLaws wsX2_putLaws rmX2_putLaws 2 := ⟨TX2, _, _, _, _, _, rfl, gX4_laws_X2_putLaws, rfl, rfl, rfl, ⟨by decide +kernel, by decide +kernel, by decide +kernel⟩, by decide⟩
theorem vX4_spread_39 : aCS wsX4_spread rmX4_spread RX4 39 yX4_within wsX4_within rmX4_within 3 := ⟨_, _, _, _, gX4_spread_X4_within, rfl, rfl, rfl, ⟨by decide +kernel, by decide +kernel, by decide +kernel⟩, by decide⟩
theorem inX4_spread_X4 : ∀ w ∈ wsX40, w ∈ wsX4_spread := fun w h => List.mem_cons_of_mem _ (List.mem_append_left _ (List.mem_append_right _ h))
theorem fX4_spread_19 : aFL wsX4_spread RX4 19 4 1 := ⟨_, _, _, rfl, inX4_spread_X4, by decide, by decide +kernel⟩
theorem vX4_spread_111 : aCV wsX4_spread rmX4_spread RX4 111 2 yX2_putSpread wsX2_putSpread rmX2_putSpread 2 := ⟨TX2, _, _, _, _, _, rfl, gX4_spread_X2_putSpread, rfl, rfl, rfl, ⟨by decide +kernel, by decide +kernel, by decide +kernel⟩, by decide⟩
theorem vX4_base_55 : aCV wsX4_base rmX4_base RX4 55 4 yX4_isPlace wsX4_isPlace rmX4_isPlace 1 := ⟨TX4, _, _, _, _, _, rfl, gX4_base_X4_isPlace, rfl, rfl, rfl, ⟨by decide +kernel, by decide +kernel, by decide +kernel⟩, by decide⟩
theorem vX4_base_39 : aCS wsX4_base rmX4_base RX4 39 yX4_within wsX4_within rmX4_within 3 := ⟨_, _, _, _, gX4_base_X4_within, rfl, rfl, rfl, ⟨by decide +kernel, by decide +kernel, by decide +kernel⟩, by decide⟩
theorem inX4_base_X4 : ∀ w ∈ wsX40, w ∈ wsX4_base := fun w h => List.mem_cons_of_mem _ (List.mem_append_left _ (List.mem_append_right _ h))
theorem fX4_base_19 : aFL wsX4_base RX4 19 4 1 := ⟨_, _, _, rfl, inX4_base_X4, by decide, by decide +kernel⟩
theorem vX4_base_101 : aCV wsX4_base rmX4_base RX4 101 2 yX2_putBase wsX2_putBase rmX2_putBase 2 := ⟨TX2, _, _, _, _, _, rfl, gX4_base_X2_putBase, rfl, rfl, rfl, ⟨by decide +kernel, by decide +kernel, by decide +kernel⟩, by decide⟩
theorem vX4_set_55 : aCV wsX4_set rmX4_set RX4 55 4 yX4_isPlace wsX4_isPlace rmX4_isPlace 1 := ⟨TX4, _, _, _, _, _, rfl, gX4_set_X4_isPlace, rfl, rfl, rfl, ⟨by decide +kernel, by decide +kernel, by decide +kernel⟩, by decide⟩
theorem vX4_set_39 : aCS wsX4_set rmX4_set RX4 39 yX4_within wsX4_within rmX4_within 3 := ⟨_, _, _, _, gX4_set_X4_within, rfl, rfl, rfl, ⟨by decide +kernel, by decide +kernel, by decide +kernel⟩, by decide⟩
theorem inX4_set_X4 : ∀ w ∈ wsX40, w ∈ wsX4_set := fun w h => List.mem_cons_of_mem _ (List.mem_append_left _ (List.mem_append_right _ h))
theorem fX4_set_19 : aFL wsX4_set RX4 19 4 1 := ⟨_, _, _, rfl, inX4_set_X4, by decide, by decide +kernel⟩
theorem vX4_set_114 : aCV wsX4_set rmX4_set RX4 114 2 yX2_trySetting wsX2_trySetting rmX2_trySetting 2 := ⟨TX2, _, _, _, _, _, rfl, gX4_set_X2_trySetting, rfl, rfl, rfl, ⟨by decide +kernel, by decide +kernel, by decide +kernel⟩, by decide⟩
theorem vX4_about_55 : aCV wsX4_about rmX4_about RX4 55 4 yX4_isPlace wsX4_isPlace rmX4_isPlace 1 := ⟨TX4, _, _, _, _, _, rfl, gX4_about_X4_isPlace, rfl, rfl, rfl, ⟨by decide +kernel, by decide +kernel, by decide +kernel⟩, by decide⟩
theorem kX4_about_68 : Cond.constant RX4 68 (i3 (-1000001)) ∈ wsX4_about := by decide +kernel
theorem inX4_about_X4 : ∀ w ∈ wsX40, w ∈ wsX4_about := fun w h => List.mem_cons_of_mem _ (List.mem_append_left _ (List.mem_append_right _ h))
theorem fX4_about_19 : aFL wsX4_about RX4 19 4 1 := ⟨_, _, _, rfl, inX4_about_X4, by decide, by decide +kernel⟩
theorem vX4_about_117 : aCV wsX4_about rmX4_about RX4 117 2 yX2_settingOf wsX2_settingOf rmX2_settingOf 1 := ⟨TX2, _, _, _, _, _, rfl, gX4_about_X2_settingOf, rfl, rfl, rfl, ⟨by decide +kernel, by decide +kernel, by decide +kernel⟩, by decide⟩
theorem vX4_about_120 : aCV wsX4_about rmX4_about RX4 120 2 yX2_baseOf wsX2_baseOf rmX2_baseOf 1 := ⟨TX2, _, _, _, _, _, rfl, gX4_about_X2_baseOf, rfl, rfl, rfl, ⟨by decide +kernel, by decide +kernel, by decide +kernel⟩, by decide⟩
theorem vX4_about_123 : aCV wsX4_about rmX4_about RX4 123 2 yX2_errorOf wsX2_errorOf rmX2_errorOf 1 := ⟨TX2, _, _, _, _, _, rfl, gX4_about_X2_errorOf, rfl, rfl, rfl, ⟨by decide +kernel, by decide +kernel, by decide +kernel⟩, by decide⟩
theorem kX4_about_82 : Cond.constant RX4 82 (i3 (-1000002)) ∈ wsX4_about := by decide +kernel
theorem vX4_uneven_39 : aCS wsX4_uneven rmX4_uneven RX4 39 yX4_within wsX4_within rmX4_within 3 := ⟨_, _, _, _, gX4_uneven_X4_within, rfl, rfl, rfl, ⟨by decide +kernel, by decide +kernel, by decide +kernel⟩, by decide⟩
theorem inX4_uneven_X4 : ∀ w ∈ wsX40, w ∈ wsX4_uneven := fun w h => List.mem_cons_of_mem _ (List.mem_append_left _ (List.mem_append_right _ h))
theorem fX4_uneven_19 : aFL wsX4_uneven RX4 19 4 1 := ⟨_, _, _, rfl, inX4_uneven_X4, by decide, by decide +kernel⟩
theorem vX4_uneven_126 : aCV wsX4_uneven rmX4_uneven RX4 126 2 yX2_unevenness wsX2_unevenness rmX2_unevenness 1 := ⟨TX2, _, _, _, _, _, rfl, gX4_uneven_X2_unevenness, rfl, rfl, rfl, ⟨by decide +kernel, by decide +kernel, by decide +kernel⟩, by decide⟩
theorem vX4_best_39 : aCS wsX4_best rmX4_best RX4 39 yX4_within wsX4_within rmX4_within 3 := ⟨_, _, _, _, gX4_best_X4_within, rfl, rfl, rfl, ⟨by decide +kernel, by decide +kernel, by decide +kernel⟩, by decide⟩
theorem inX4_best_X4 : ∀ w ∈ wsX40, w ∈ wsX4_best := fun w h => List.mem_cons_of_mem _ (List.mem_append_left _ (List.mem_append_right _ h))
theorem fX4_best_19 : aFL wsX4_best RX4 19 4 1 := ⟨_, _, _, rfl, inX4_best_X4, by decide, by decide +kernel⟩
theorem vX4_best_130 : aCV wsX4_best rmX4_best RX4 130 2 yX2_settle wsX2_settle rmX2_settle 1 := ⟨TX2, _, _, _, _, _, rfl, gX4_best_X2_settle, rfl, rfl, rfl, ⟨by decide +kernel, by decide +kernel, by decide +kernel⟩, by decide⟩
theorem vX4_kind_39 : aCS wsX4_kind rmX4_kind RX4 39 yX4_within wsX4_within rmX4_within 3 := ⟨_, _, _, _, gX4_kind_X4_within, rfl, rfl, rfl, ⟨by decide +kernel, by decide +kernel, by decide +kernel⟩, by decide⟩
theorem inX4_kind_X4 : ∀ w ∈ wsX40, w ∈ wsX4_kind := fun w h => List.mem_cons_of_mem _ (List.mem_append_left _ (List.mem_append_right _ h))
theorem fX4_kind_28 : aFL wsX4_kind RX4 28 4 2 := ⟨_, _, _, rfl, inX4_kind_X4, by decide, by decide +kernel⟩
theorem vX4_kind_133 : aCV wsX4_kind rmX4_kind RX4 133 3 yX3_count wsX3_count rmX3_count 0 := ⟨TX3, _, _, _, _, _, rfl, gX4_kind_X3_count, rfl, rfl, rfl, ⟨by decide +kernel, by decide +kernel, by decide +kernel⟩, by decide⟩
theorem vX4_kind_134 : aCV wsX4_kind rmX4_kind RX4 134 3 yX3_add wsX3_add rmX3_add 3 := ⟨TX3, _, _, _, _, _, rfl, gX4_kind_X3_add, rfl, rfl, rfl, ⟨by decide +kernel, by decide +kernel, by decide +kernel⟩, by decide⟩
theorem inX4_canLie_X4 : ∀ w ∈ wsX40, w ∈ wsX4_canLie := fun w h => List.mem_cons_of_mem _ (List.mem_append_left _ (List.mem_append_left _ (List.mem_append_right _ h)))
theorem fX4_canLie_28 : aFL wsX4_canLie RX4 28 4 2 := ⟨_, _, _, rfl, inX4_canLie_X4, by decide, by decide +kernel⟩
theorem vX4_canLie_133 : aCV wsX4_canLie rmX4_canLie RX4 133 3 yX3_count wsX3_count rmX3_count 0 := ⟨TX3, _, _, _, _, _, rfl, gX4_canLie_X3_count, rfl, rfl, rfl, ⟨by decide +kernel, by decide +kernel, by decide +kernel⟩, by decide⟩
theorem vX4_canLie_39 : aCS wsX4_canLie rmX4_canLie RX4 39 yX4_within wsX4_within rmX4_within 3 := ⟨_, _, _, _, gX4_canLie_X4_within, rfl, rfl, rfl, ⟨by decide +kernel, by decide +kernel, by decide +kernel⟩, by decide⟩
theorem vX4_canLie_55 : aCV wsX4_canLie rmX4_canLie RX4 55 4 yX4_isPlace wsX4_isPlace rmX4_isPlace 1 := ⟨TX4, _, _, _, _, _, rfl, gX4_canLie_X4_isPlace, rfl, rfl, rfl, ⟨by decide +kernel, by decide +kernel, by decide +kernel⟩, by decide⟩
theorem vX4_canLie_137 : aCV wsX4_canLie rmX4_canLie RX4 137 3 yX3_lies wsX3_lies rmX3_lies 2 := ⟨TX3, _, _, _, _, _, rfl, gX4_canLie_X3_lies, rfl, rfl, rfl, ⟨by decide +kernel, by decide +kernel, by decide +kernel⟩, by decide⟩
theorem inX4_cut_X4 : ∀ w ∈ wsX40, w ∈ wsX4_cut := fun w h => List.mem_cons_of_mem _ (List.mem_append_left _ (List.mem_append_left _ (List.mem_append_right _ h)))
theorem fX4_cut_28 : aFL wsX4_cut RX4 28 4 2 := ⟨_, _, _, rfl, inX4_cut_X4, by decide, by decide +kernel⟩
theorem vX4_cut_140 : aCV wsX4_cut rmX4_cut RX4 140 3 yX3_plan wsX3_plan rmX3_plan 0 := ⟨TX3, _, _, _, _, _, rfl, gX4_cut_X3_plan, rfl, rfl, rfl, ⟨by decide +kernel, by decide +kernel, by decide +kernel⟩, by decide⟩
theorem vX4_cutAt_55 : aCV wsX4_cutAt rmX4_cutAt RX4 55 4 yX4_isPlace wsX4_isPlace rmX4_isPlace 1 := ⟨TX4, _, _, _, _, _, rfl, gX4_cutAt_X4_isPlace, rfl, rfl, rfl, ⟨by decide +kernel, by decide +kernel, by decide +kernel⟩, by decide⟩
theorem inX4_cutAt_X4 : ∀ w ∈ wsX40, w ∈ wsX4_cutAt := fun w h => List.mem_cons_of_mem _ (List.mem_append_left _ (List.mem_append_left _ (List.mem_append_right _ h)))
theorem fX4_cutAt_28 : aFL wsX4_cutAt RX4 28 4 2 := ⟨_, _, _, rfl, inX4_cutAt_X4, by decide, by decide +kernel⟩
theorem vX4_cutAt_140 : aCV wsX4_cutAt rmX4_cutAt RX4 140 3 yX3_plan wsX3_plan rmX3_plan 0 := ⟨TX3, _, _, _, _, _, rfl, gX4_cutAt_X3_plan, rfl, rfl, rfl, ⟨by decide +kernel, by decide +kernel, by decide +kernel⟩, by decide⟩
theorem vX4_cutAt_143 : aCV wsX4_cutAt rmX4_cutAt RX4 143 3 yX3_plannedAt wsX3_plannedAt rmX3_plannedAt 1 := ⟨TX3, _, _, _, _, _, rfl, gX4_cutAt_X3_plannedAt, rfl, rfl, rfl, ⟨by decide +kernel, by decide +kernel, by decide +kernel⟩, by decide⟩
theorem inX4_grade_X4 : ∀ w ∈ wsX40, w ∈ wsX4_grade := fun w h => List.mem_cons_of_mem _ (List.mem_append_left _ (List.mem_append_right _ h))
theorem fX4_grade_35 : aFL wsX4_grade RX4 35 4 3 := ⟨_, _, _, rfl, inX4_grade_X4, by decide, by decide +kernel⟩
theorem vX4_grade_146 : aCV wsX4_grade rmX4_grade RX4 146 1 yX1_count wsX1_count rmX1_count 0 := ⟨TX1, _, _, _, _, _, rfl, gX4_grade_X1_count, rfl, rfl, rfl, ⟨by decide +kernel, by decide +kernel, by decide +kernel⟩, by decide⟩
theorem vX4_grade_147 : aCV wsX4_grade rmX4_grade RX4 147 1 yX1_add wsX1_add rmX1_add 0 := ⟨TX1, _, _, _, _, _, rfl, gX4_grade_X1_add, rfl, rfl, rfl, ⟨by decide +kernel, by decide +kernel, by decide +kernel⟩, by decide⟩
theorem vX4_cost_149 : aCV wsX4_cost rmX4_cost RX4 149 4 yX4_isGrade wsX4_isGrade rmX4_isGrade 1 := ⟨TX4, _, _, _, _, _, rfl, gX4_cost_X4_isGrade, rfl, rfl, rfl, ⟨by decide +kernel, by decide +kernel, by decide +kernel⟩, by decide⟩
theorem vX4_cost_39 : aCS wsX4_cost rmX4_cost RX4 39 yX4_within wsX4_within rmX4_within 3 := ⟨_, _, _, _, gX4_cost_X4_within, rfl, rfl, rfl, ⟨by decide +kernel, by decide +kernel, by decide +kernel⟩, by decide⟩
theorem inX4_cost_X4 : ∀ w ∈ wsX40, w ∈ wsX4_cost := fun w h => List.mem_cons_of_mem _ (List.mem_append_left _ (List.mem_append_right _ h))
theorem fX4_cost_35 : aFL wsX4_cost RX4 35 4 3 := ⟨_, _, _, rfl, inX4_cost_X4, by decide, by decide +kernel⟩
theorem vX4_cost_152 : aCV wsX4_cost rmX4_cost RX4 152 1 yX1_putCost wsX1_putCost rmX1_putCost 3 := ⟨TX1, _, _, _, _, _, rfl, gX4_cost_X1_putCost, rfl, rfl, rfl, ⟨by decide +kernel, by decide +kernel, by decide +kernel⟩, by decide⟩
theorem vX4_tour_149 : aCV wsX4_tour rmX4_tour RX4 149 4 yX4_isGrade wsX4_isGrade rmX4_isGrade 1 := ⟨TX4, _, _, _, _, _, rfl, gX4_tour_X4_isGrade, rfl, rfl, rfl, ⟨by decide +kernel, by decide +kernel, by decide +kernel⟩, by decide⟩
theorem inX4_tour_X4 : ∀ w ∈ wsX40, w ∈ wsX4_tour := fun w h => List.mem_cons_of_mem _ (List.mem_append_left _ (List.mem_append_right _ h))
theorem fX4_tour_35 : aFL wsX4_tour RX4 35 4 3 := ⟨_, _, _, rfl, inX4_tour_X4, by decide, by decide +kernel⟩
theorem vX4_tour_155 : aCV wsX4_tour rmX4_tour RX4 155 1 yX1_leastCosts wsX1_leastCosts rmX1_leastCosts 1 := ⟨TX1, _, _, _, _, _, rfl, gX4_tour_X1_leastCosts, rfl, rfl, rfl, ⟨by decide +kernel, by decide +kernel, by decide +kernel⟩, by decide⟩
theorem vX4_tourAt_149 : aCV wsX4_tourAt rmX4_tourAt RX4 149 4 yX4_isGrade wsX4_isGrade rmX4_isGrade 1 := ⟨TX4, _, _, _, _, _, rfl, gX4_tourAt_X4_isGrade, rfl, rfl, rfl, ⟨by decide +kernel, by decide +kernel, by decide +kernel⟩, by decide⟩
theorem inX4_tourAt_X4 : ∀ w ∈ wsX40, w ∈ wsX4_tourAt := fun w h => List.mem_cons_of_mem _ (List.mem_append_left _ (List.mem_append_right _ h))
theorem fX4_tourAt_35 : aFL wsX4_tourAt RX4 35 4 3 := ⟨_, _, _, rfl, inX4_tourAt_X4, by decide, by decide +kernel⟩
theorem vX4_tourAt_158 : aCV wsX4_tourAt rmX4_tourAt RX4 158 1 yX1_stepOf wsX1_stepOf rmX1_stepOf 2 := ⟨TX1, _, _, _, _, _, rfl, gX4_tourAt_X1_stepOf, rfl, rfl, rfl, ⟨by decide +kernel, by decide +kernel, by decide +kernel⟩, by decide⟩
theorem inX4_told_X4 : ∀ w ∈ wsX40, w ∈ wsX4_told := fun w h => List.mem_cons_of_mem _ (List.mem_append_left _ (List.mem_append_left _ (List.mem_append_left _ (List.mem_append_left _ (List.mem_append_right _ h)))))
theorem fX4_told_19 : aFL wsX4_told RX4 19 4 1 := ⟨_, _, _, rfl, inX4_told_X4, by decide, by decide +kernel⟩
theorem vX4_told_43 : aCV wsX4_told rmX4_told RX4 43 2 yX2_places wsX2_places rmX2_places 0 := ⟨TX2, _, _, _, _, _, rfl, gX4_told_X2_places, rfl, rfl, rfl, ⟨by decide +kernel, by decide +kernel, by decide +kernel⟩, by decide⟩
theorem fX4_told_10 : aFL wsX4_told RX4 10 4 0 := ⟨_, _, _, rfl, inX4_told_X4, by decide, by decide +kernel⟩
theorem vX4_told_62 : aCV wsX4_told rmX4_told RX4 62 0 yX0_count wsX0_count rmX0_count 0 := ⟨TX0, _, _, _, _, _, rfl, gX4_told_X0_count, rfl, rfl, rfl, ⟨by decide +kernel, by decide +kernel, by decide +kernel⟩, by decide⟩
theorem vX4_told_161 : aCV wsX4_told rmX4_told RX4 161 0 yX0_fittingCount wsX0_fittingCount rmX0_fittingCount 0 := ⟨TX0, _, _, _, _, _, rfl, gX4_told_X0_fittingCount, rfl, rfl, rfl, ⟨by decide +kernel, by decide +kernel, by decide +kernel⟩, by decide⟩
theorem fX4_told_28 : aFL wsX4_told RX4 28 4 2 := ⟨_, _, _, rfl, inX4_told_X4, by decide, by decide +kernel⟩
theorem vX4_told_133 : aCV wsX4_told rmX4_told RX4 133 3 yX3_count wsX3_count rmX3_count 0 := ⟨TX3, _, _, _, _, _, rfl, gX4_told_X3_count, rfl, rfl, rfl, ⟨by decide +kernel, by decide +kernel, by decide +kernel⟩, by decide⟩
theorem fX4_told_35 : aFL wsX4_told RX4 35 4 3 := ⟨_, _, _, rfl, inX4_told_X4, by decide, by decide +kernel⟩
theorem vX4_told_146 : aCV wsX4_told rmX4_told RX4 146 1 yX1_count wsX1_count rmX1_count 0 := ⟨TX1, _, _, _, _, _, rfl, gX4_told_X1_count, rfl, rfl, rfl, ⟨by decide +kernel, by decide +kernel, by decide +kernel⟩, by decide⟩
theorem vX4_told_164 : aCV wsX4_told rmX4_told RX4 164 2 yX2_nextLaw wsX2_nextLaw rmX2_nextLaw 0 := ⟨TX2, _, _, _, _, _, rfl, gX4_told_X2_nextLaw, rfl, rfl, rfl, ⟨by decide +kernel, by decide +kernel, by decide +kernel⟩, by decide⟩
theorem vX4_told_167 : aCV wsX4_told rmX4_told RX4 167 2 yX2_bendLaw wsX2_bendLaw rmX2_bendLaw 0 := ⟨TX2, _, _, _, _, _, rfl, gX4_told_X2_bendLaw, rfl, rfl, rfl, ⟨by decide +kernel, by decide +kernel, by decide +kernel⟩, by decide⟩
theorem vX4_told_170 : aCV wsX4_told rmX4_told RX4 170 2 yX2_mainSpread wsX2_mainSpread rmX2_mainSpread 0 := ⟨TX2, _, _, _, _, _, rfl, gX4_told_X2_mainSpread, rfl, rfl, rfl, ⟨by decide +kernel, by decide +kernel, by decide +kernel⟩, by decide⟩
theorem vX4_told_173 : aCV wsX4_told rmX4_told RX4 173 2 yX2_sideSpread wsX2_sideSpread rmX2_sideSpread 0 := ⟨TX2, _, _, _, _, _, rfl, gX4_told_X2_sideSpread, rfl, rfl, rfl, ⟨by decide +kernel, by decide +kernel, by decide +kernel⟩, by decide⟩
theorem inX4_isPlace_X4 : ∀ w ∈ wsX40, w ∈ wsX4_isPlace := fun w h => List.mem_cons_of_mem _ (List.mem_append_left _ (List.mem_append_right _ h))
theorem fX4_isPlace_19 : aFL wsX4_isPlace RX4 19 4 1 := ⟨_, _, _, rfl, inX4_isPlace_X4, by decide, by decide +kernel⟩
theorem vX4_isPlace_43 : aCV wsX4_isPlace rmX4_isPlace RX4 43 2 yX2_places wsX2_places rmX2_places 0 := ⟨TX2, _, _, _, _, _, rfl, gX4_isPlace_X2_places, rfl, rfl, rfl, ⟨by decide +kernel, by decide +kernel, by decide +kernel⟩, by decide⟩
theorem vX4_isPlace_39 : aCS wsX4_isPlace rmX4_isPlace RX4 39 yX4_within wsX4_within rmX4_within 3 := ⟨_, _, _, _, gX4_isPlace_X4_within, rfl, rfl, rfl, ⟨by decide +kernel, by decide +kernel, by decide +kernel⟩, by decide⟩
theorem inX4_isGrade_X4 : ∀ w ∈ wsX40, w ∈ wsX4_isGrade := fun w h => List.mem_cons_of_mem _ (List.mem_append_left _ (List.mem_append_right _ h))
theorem fX4_isGrade_35 : aFL wsX4_isGrade RX4 35 4 3 := ⟨_, _, _, rfl, inX4_isGrade_X4, by decide, by decide +kernel⟩
theorem vX4_isGrade_146 : aCV wsX4_isGrade rmX4_isGrade RX4 146 1 yX1_count wsX1_count rmX1_count 0 := ⟨TX1, _, _, _, _, _, rfl, gX4_isGrade_X1_count, rfl, rfl, rfl, ⟨by decide +kernel, by decide +kernel, by decide +kernel⟩, by decide⟩
theorem vX4_isGrade_39 : aCS wsX4_isGrade rmX4_isGrade RX4 39 yX4_within wsX4_within rmX4_within 3 := ⟨_, _, _, _, gX4_isGrade_X4_within, rfl, rfl, rfl, ⟨by decide +kernel, by decide +kernel, by decide +kernel⟩, by decide⟩
theorem vX4_isTime_39 : aCS wsX4_isTime rmX4_isTime RX4 39 yX4_within wsX4_within rmX4_within 3 := ⟨_, _, _, _, gX4_isTime_X4_within, rfl, rfl, rfl, ⟨by decide +kernel, by decide +kernel, by decide +kernel⟩, by decide⟩
end
section
theorem inX5_isPlace_X5 : ∀ w ∈ wsX50, w ∈ wsX5_isPlace := fun w h => List.mem_cons_of_mem _ (List.mem_append_right _ h)
theorem fX5_isPlace_7 : aFL wsX5_isPlace RX5 7 5 0 := ⟨_, _, _, rfl, inX5_isPlace_X5, by decide, by decide +kernel⟩
theorem vX5_isPlace_75 : aCS wsX5_isPlace rmX5_isPlace RX5 75 yX5_in wsX5_in rmX5_in 3 := ⟨_, _, _, _, gX5_isPlace_X5_in, rfl, rfl, rfl, ⟨by decide +kernel, by decide +kernel, by decide +kernel⟩, by decide⟩
theorem inX5_begin_X5 : ∀ w ∈ wsX50, w ∈ wsX5_begin := fun w h => List.mem_cons_of_mem _ (List.mem_append_right _ h)
theorem pX5_begin_79 : aFP wsX5_begin RX5 79 5 1 false := ⟨_, _, _, tyX5, rfl, inX5_begin_X5, tyX5_ok, nmX5, by decide, by decide +kernel, rfl, rfl⟩
theorem fX5_begin_27 : aFL wsX5_begin RX5 27 5 6 := ⟨_, _, _, rfl, inX5_begin_X5, by decide, by decide +kernel⟩
theorem fX5_begin_30 : aFL wsX5_begin RX5 30 5 7 := ⟨_, _, _, rfl, inX5_begin_X5, by decide, by decide +kernel⟩
theorem vX5_sheet_75 : aCS wsX5_sheet rmX5_sheet RX5 75 yX5_in wsX5_in rmX5_in 3 := ⟨_, _, _, _, gX5_sheet_X5_in, rfl, rfl, rfl, ⟨by decide +kernel, by decide +kernel, by decide +kernel⟩, by decide⟩
theorem inX5_sheet_X5 : ∀ w ∈ wsX50, w ∈ wsX5_sheet := fun w h => List.mem_cons_of_mem _ (List.mem_append_right _ h)
theorem fX5_sheet_7 : aFL wsX5_sheet RX5 7 5 0 := ⟨_, _, _, rfl, inX5_sheet_X5, by decide, by decide +kernel⟩
theorem pX5_sheet_7 : aFP wsX5_sheet RX5 7 5 0 false := ⟨_, _, _, tyX5, rfl, inX5_sheet_X5, tyX5_ok, nmX5, by decide, by decide +kernel, rfl, rfl⟩
theorem pX5_sheet_82 : aFP wsX5_sheet RX5 82 5 14 false := ⟨_, _, _, tyX5, rfl, inX5_sheet_X5, tyX5_ok, nmX5, by decide, by decide +kernel, rfl, rfl⟩
theorem fX5_sheet_33 : aFL wsX5_sheet RX5 33 5 8 := ⟨_, _, _, rfl, inX5_sheet_X5, by decide, by decide +kernel⟩
theorem fX5_sheet_36 : aFL wsX5_sheet RX5 36 5 9 := ⟨_, _, _, rfl, inX5_sheet_X5, by decide, by decide +kernel⟩
theorem vX5_sheet_72 : aCV wsX5_sheet rmX5_sheet RX5 72 5 yX5_begin wsX5_begin rmX5_begin 0 := ⟨TX5, _, _, _, _, _, rfl, gX5_sheet_X5_begin, rfl, rfl, rfl, ⟨by decide +kernel, by decide +kernel, by decide +kernel⟩, by decide⟩
theorem vX5_read_85 : aCV wsX5_read rmX5_read RX5 85 5 yX5_isPlace wsX5_isPlace rmX5_isPlace 1 := ⟨TX5, _, _, _, _, _, rfl, gX5_read_X5_isPlace, rfl, rfl, rfl, ⟨by decide +kernel, by decide +kernel, by decide +kernel⟩, by decide⟩
theorem vX5_read_75 : aCS wsX5_read rmX5_read RX5 75 yX5_in wsX5_in rmX5_in 3 := ⟨_, _, _, _, gX5_read_X5_in, rfl, rfl, rfl, ⟨by decide +kernel, by decide +kernel, by decide +kernel⟩, by decide⟩
theorem inX5_read_X5 : ∀ w ∈ wsX50, w ∈ wsX5_read := fun w h => List.mem_cons_of_mem _ (List.mem_append_right _ h)
theorem fX5_read_79 : aFL wsX5_read RX5 79 5 1 := ⟨_, _, _, rfl, inX5_read_X5, by decide, by decide +kernel⟩
theorem fX5_read_27 : aFL wsX5_read RX5 27 5 6 := ⟨_, _, _, rfl, inX5_read_X5, by decide, by decide +kernel⟩
theorem fX5_read_30 : aFL wsX5_read RX5 30 5 7 := ⟨_, _, _, rfl, inX5_read_X5, by decide, by decide +kernel⟩
theorem fX5_read_13 : aFL wsX5_read RX5 13 5 2 := ⟨_, _, _, rfl, inX5_read_X5, by decide, by decide +kernel⟩
theorem fX5_read_17 : aFL wsX5_read RX5 17 5 3 := ⟨_, _, _, rfl, inX5_read_X5, by decide, by decide +kernel⟩
theorem fX5_read_20 : aFL wsX5_read RX5 20 5 4 := ⟨_, _, _, rfl, inX5_read_X5, by decide, by decide +kernel⟩
theorem fX5_read_23 : aFL wsX5_read RX5 23 5 5 := ⟨_, _, _, rfl, inX5_read_X5, by decide, by decide +kernel⟩
theorem pX5_read_79 : aFP wsX5_read RX5 79 5 1 false := ⟨_, _, _, tyX5, rfl, inX5_read_X5, tyX5_ok, nmX5, by decide, by decide +kernel, rfl, rfl⟩
theorem inX5_reading_X5 : ∀ w ∈ wsX50, w ∈ wsX5_reading := fun w h => List.mem_cons_of_mem _ (List.mem_append_right _ h)
theorem fX5_reading_79 : aFL wsX5_reading RX5 79 5 1 := ⟨_, _, _, rfl, inX5_reading_X5, by decide, by decide +kernel⟩
theorem vX5_reading_75 : aCS wsX5_reading rmX5_reading RX5 75 yX5_in wsX5_in rmX5_in 3 := ⟨_, _, _, _, gX5_reading_X5_in, rfl, rfl, rfl, ⟨by decide +kernel, by decide +kernel, by decide +kernel⟩, by decide⟩
theorem kX5_reading_89 : Cond.constant RX5 89 (i3 (-1000001)) ∈ wsX5_reading := by decide +kernel
theorem fX5_reading_13 : aFL wsX5_reading RX5 13 5 2 := ⟨_, _, _, rfl, inX5_reading_X5, by decide, by decide +kernel⟩
theorem fX5_reading_17 : aFL wsX5_reading RX5 17 5 3 := ⟨_, _, _, rfl, inX5_reading_X5, by decide, by decide +kernel⟩
theorem fX5_reading_20 : aFL wsX5_reading RX5 20 5 4 := ⟨_, _, _, rfl, inX5_reading_X5, by decide, by decide +kernel⟩
theorem fX5_reading_23 : aFL wsX5_reading RX5 23 5 5 := ⟨_, _, _, rfl, inX5_reading_X5, by decide, by decide +kernel⟩
theorem kX5_reading_90 : Cond.constant RX5 90 (i3 (-1000002)) ∈ wsX5_reading := by decide +kernel
theorem inX5_isAcross_X5 : ∀ w ∈ wsX50, w ∈ wsX5_isAcross := fun w h => List.mem_cons_of_mem _ (List.mem_append_right _ h)
theorem fX5_isAcross_27 : aFL wsX5_isAcross RX5 27 5 6 := ⟨_, _, _, rfl, inX5_isAcross_X5, by decide, by decide +kernel⟩
theorem inX5_acrossOf_X5 : ∀ w ∈ wsX50, w ∈ wsX5_acrossOf := fun w h => List.mem_cons_of_mem _ (List.mem_append_right _ h)
theorem fX5_acrossOf_30 : aFL wsX5_acrossOf RX5 30 5 7 := ⟨_, _, _, rfl, inX5_acrossOf_X5, by decide, by decide +kernel⟩
theorem vX5_across_85 : aCV wsX5_across rmX5_across RX5 85 5 yX5_isPlace wsX5_isPlace rmX5_isPlace 1 := ⟨TX5, _, _, _, _, _, rfl, gX5_across_X5_isPlace, rfl, rfl, rfl, ⟨by decide +kernel, by decide +kernel, by decide +kernel⟩, by decide⟩
theorem kX5_across_89 : Cond.constant RX5 89 (i3 (-1000001)) ∈ wsX5_across := by decide +kernel
theorem vX5_across_91 : aCV wsX5_across rmX5_across RX5 91 5 yX5_isAcross wsX5_isAcross rmX5_isAcross 1 := ⟨TX5, _, _, _, _, _, rfl, gX5_across_X5_isAcross, rfl, rfl, rfl, ⟨by decide +kernel, by decide +kernel, by decide +kernel⟩, by decide⟩
theorem vX5_across_94 : aCV wsX5_across rmX5_across RX5 94 5 yX5_acrossOf wsX5_acrossOf rmX5_acrossOf 1 := ⟨TX5, _, _, _, _, _, rfl, gX5_across_X5_acrossOf, rfl, rfl, rfl, ⟨by decide +kernel, by decide +kernel, by decide +kernel⟩, by decide⟩
theorem kX5_across_98 : Cond.constant RX5 98 (i3 (-1000005)) ∈ wsX5_across := by decide +kernel
theorem vX5_along_75 : aCS wsX5_along rmX5_along RX5 75 yX5_in wsX5_in rmX5_in 3 := ⟨_, _, _, _, gX5_along_X5_in, rfl, rfl, rfl, ⟨by decide +kernel, by decide +kernel, by decide +kernel⟩, by decide⟩
theorem kX5_along_89 : Cond.constant RX5 89 (i3 (-1000001)) ∈ wsX5_along := by decide +kernel
theorem inX5_along_X5 : ∀ w ∈ wsX50, w ∈ wsX5_along := fun w h => List.mem_cons_of_mem _ (List.mem_append_right _ h)
theorem fX5_along_27 : aFL wsX5_along RX5 27 5 6 := ⟨_, _, _, rfl, inX5_along_X5, by decide, by decide +kernel⟩
theorem fX5_along_30 : aFL wsX5_along RX5 30 5 7 := ⟨_, _, _, rfl, inX5_along_X5, by decide, by decide +kernel⟩
theorem kX5_along_98 : Cond.constant RX5 98 (i3 (-1000005)) ∈ wsX5_along := by decide +kernel
theorem inX5_groups_X5 : ∀ w ∈ wsX50, w ∈ wsX5_groups := fun w h => List.mem_cons_of_mem _ (List.mem_append_right _ h)
theorem fX5_groups_7 : aFL wsX5_groups RX5 7 5 0 := ⟨_, _, _, rfl, inX5_groups_X5, by decide, by decide +kernel⟩
theorem fX5_groups_27 : aFL wsX5_groups RX5 27 5 6 := ⟨_, _, _, rfl, inX5_groups_X5, by decide, by decide +kernel⟩
theorem inX5_take_X5 : ∀ w ∈ wsX50, w ∈ wsX5_take := fun w h => List.mem_cons_of_mem _ (List.mem_append_right _ h)
theorem fX5_take_7 : aFL wsX5_take RX5 7 5 0 := ⟨_, _, _, rfl, inX5_take_X5, by decide, by decide +kernel⟩
theorem vX5_take_91 : aCV wsX5_take rmX5_take RX5 91 5 yX5_isAcross wsX5_isAcross rmX5_isAcross 1 := ⟨TX5, _, _, _, _, _, rfl, gX5_take_X5_isAcross, rfl, rfl, rfl, ⟨by decide +kernel, by decide +kernel, by decide +kernel⟩, by decide⟩
theorem vX5_take_94 : aCV wsX5_take rmX5_take RX5 94 5 yX5_acrossOf wsX5_acrossOf rmX5_acrossOf 1 := ⟨TX5, _, _, _, _, _, rfl, gX5_take_X5_acrossOf, rfl, rfl, rfl, ⟨by decide +kernel, by decide +kernel, by decide +kernel⟩, by decide⟩
theorem vX5_take_75 : aCS wsX5_take rmX5_take RX5 75 yX5_in wsX5_in rmX5_in 3 := ⟨_, _, _, _, gX5_take_X5_in, rfl, rfl, rfl, ⟨by decide +kernel, by decide +kernel, by decide +kernel⟩, by decide⟩
theorem fX5_take_33 : aFL wsX5_take RX5 33 5 8 := ⟨_, _, _, rfl, inX5_take_X5, by decide, by decide +kernel⟩
theorem inX5_clear_X5 : ∀ w ∈ wsX50, w ∈ wsX5_clear := fun w h => List.mem_cons_of_mem _ (List.mem_append_right _ h)
theorem fX5_clear_79 : aFL wsX5_clear RX5 79 5 1 := ⟨_, _, _, rfl, inX5_clear_X5, by decide, by decide +kernel⟩
theorem vX5_clear_72 : aCV wsX5_clear rmX5_clear RX5 72 5 yX5_begin wsX5_begin rmX5_begin 0 := ⟨TX5, _, _, _, _, _, rfl, gX5_clear_X5_begin, rfl, rfl, rfl, ⟨by decide +kernel, by decide +kernel, by decide +kernel⟩, by decide⟩
theorem inX5_areLawful_X5 : ∀ w ∈ wsX50, w ∈ wsX5_areLawful := fun w h => List.mem_cons_of_mem _ (List.mem_append_right _ h)
theorem fX5_areLawful_7 : aFL wsX5_areLawful RX5 7 5 0 := ⟨_, _, _, rfl, inX5_areLawful_X5, by decide, by decide +kernel⟩
theorem fX5_areLawful_36 : aFL wsX5_areLawful RX5 36 5 9 := ⟨_, _, _, rfl, inX5_areLawful_X5, by decide, by decide +kernel⟩
theorem vX5_areLawful_99 : aCS wsX5_areLawful rmX5_areLawful RX5 99 yX5_size wsX5_size rmX5_size 1 := ⟨_, _, _, _, gX5_areLawful_X5_size, rfl, rfl, rfl, ⟨by decide +kernel, by decide +kernel, by decide +kernel⟩, by decide⟩
theorem vX5_laws_75 : aCS wsX5_laws rmX5_laws RX5 75 yX5_in wsX5_in rmX5_in 3 := ⟨_, _, _, _, gX5_laws_X5_in, rfl, rfl, rfl, ⟨by decide +kernel, by decide +kernel, by decide +kernel⟩, by decide⟩
theorem vX5_laws_102 : aCV wsX5_laws rmX5_laws RX5 102 5 yX5_areLawful wsX5_areLawful rmX5_areLawful 2 := ⟨TX5, _, _, _, _, _, rfl, gX5_laws_X5_areLawful, rfl, rfl, rfl, ⟨by decide +kernel, by decide +kernel, by decide +kernel⟩, by decide⟩
theorem inX5_laws_X5 : ∀ w ∈ wsX50, w ∈ wsX5_laws := fun w h => List.mem_cons_of_mem _ (List.mem_append_right _ h)
theorem pX5_laws_39 : aFP wsX5_laws RX5 39 5 10 false := ⟨_, _, _, tyX5, rfl, inX5_laws_X5, tyX5_ok, nmX5, by decide, by decide +kernel, rfl, rfl⟩
theorem pX5_laws_42 : aFP wsX5_laws RX5 42 5 11 false := ⟨_, _, _, tyX5, rfl, inX5_laws_X5, tyX5_ok, nmX5, by decide, by decide +kernel, rfl, rfl⟩
theorem vX5_spread_75 : aCS wsX5_spread rmX5_spread RX5 75 yX5_in wsX5_in rmX5_in 3 := ⟨_, _, _, _, gX5_spread_X5_in, rfl, rfl, rfl, ⟨by decide +kernel, by decide +kernel, by decide +kernel⟩, by decide⟩
theorem inX5_spread_X5 : ∀ w ∈ wsX50, w ∈ wsX5_spread := fun w h => List.mem_cons_of_mem _ (List.mem_append_right _ h)
theorem pX5_spread_45 : aFP wsX5_spread RX5 45 5 12 false := ⟨_, _, _, tyX5, rfl, inX5_spread_X5, tyX5_ok, nmX5, by decide, by decide +kernel, rfl, rfl⟩
theorem pX5_spread_106 : aFP wsX5_spread RX5 106 5 13 false := ⟨_, _, _, tyX5, rfl, inX5_spread_X5, tyX5_ok, nmX5, by decide, by decide +kernel, rfl, rfl⟩
theorem vX5_base_85 : aCV wsX5_base rmX5_base RX5 85 5 yX5_isPlace wsX5_isPlace rmX5_isPlace 1 := ⟨TX5, _, _, _, _, _, rfl, gX5_base_X5_isPlace, rfl, rfl, rfl, ⟨by decide +kernel, by decide +kernel, by decide +kernel⟩, by decide⟩
theorem vX5_base_75 : aCS wsX5_base rmX5_base RX5 75 yX5_in wsX5_in rmX5_in 3 := ⟨_, _, _, _, gX5_base_X5_in, rfl, rfl, rfl, ⟨by decide +kernel, by decide +kernel, by decide +kernel⟩, by decide⟩
theorem inX5_base_X5 : ∀ w ∈ wsX50, w ∈ wsX5_base := fun w h => List.mem_cons_of_mem _ (List.mem_append_right _ h)
theorem fX5_base_33 : aFL wsX5_base RX5 33 5 8 := ⟨_, _, _, rfl, inX5_base_X5, by decide, by decide +kernel⟩
theorem vX5_set_85 : aCV wsX5_set rmX5_set RX5 85 5 yX5_isPlace wsX5_isPlace rmX5_isPlace 1 := ⟨TX5, _, _, _, _, _, rfl, gX5_set_X5_isPlace, rfl, rfl, rfl, ⟨by decide +kernel, by decide +kernel, by decide +kernel⟩, by decide⟩
theorem vX5_set_75 : aCS wsX5_set rmX5_set RX5 75 yX5_in wsX5_in rmX5_in 3 := ⟨_, _, _, _, gX5_set_X5_in, rfl, rfl, rfl, ⟨by decide +kernel, by decide +kernel, by decide +kernel⟩, by decide⟩
theorem inX5_set_X5 : ∀ w ∈ wsX50, w ∈ wsX5_set := fun w h => List.mem_cons_of_mem _ (List.mem_append_right _ h)
theorem fX5_set_36 : aFL wsX5_set RX5 36 5 9 := ⟨_, _, _, rfl, inX5_set_X5, by decide, by decide +kernel⟩
theorem fX5_set_39 : aFL wsX5_set RX5 39 5 10 := ⟨_, _, _, rfl, inX5_set_X5, by decide, by decide +kernel⟩
theorem fX5_set_42 : aFL wsX5_set RX5 42 5 11 := ⟨_, _, _, rfl, inX5_set_X5, by decide, by decide +kernel⟩
theorem vX5_set_102 : aCV wsX5_set rmX5_set RX5 102 5 yX5_areLawful wsX5_areLawful rmX5_areLawful 2 := ⟨TX5, _, _, _, _, _, rfl, gX5_set_X5_areLawful, rfl, rfl, rfl, ⟨by decide +kernel, by decide +kernel, by decide +kernel⟩, by decide⟩
theorem inX5_error_X5 : ∀ w ∈ wsX50, w ∈ wsX5_error := fun w h => List.mem_cons_of_mem _ (List.mem_append_right _ h)
theorem fX5_error_36 : aFL wsX5_error RX5 36 5 9 := ⟨_, _, _, rfl, inX5_error_X5, by decide, by decide +kernel⟩
theorem fX5_error_7 : aFL wsX5_error RX5 7 5 0 := ⟨_, _, _, rfl, inX5_error_X5, by decide, by decide +kernel⟩
theorem fX5_error_33 : aFL wsX5_error RX5 33 5 8 := ⟨_, _, _, rfl, inX5_error_X5, by decide, by decide +kernel⟩
theorem fX5_error_45 : aFL wsX5_error RX5 45 5 12 := ⟨_, _, _, rfl, inX5_error_X5, by decide, by decide +kernel⟩
theorem fX5_error_106 : aFL wsX5_error RX5 106 5 13 := ⟨_, _, _, rfl, inX5_error_X5, by decide, by decide +kernel⟩
theorem vX5_about_85 : aCV wsX5_about rmX5_about RX5 85 5 yX5_isPlace wsX5_isPlace rmX5_isPlace 1 := ⟨TX5, _, _, _, _, _, rfl, gX5_about_X5_isPlace, rfl, rfl, rfl, ⟨by decide +kernel, by decide +kernel, by decide +kernel⟩, by decide⟩
theorem kX5_about_89 : Cond.constant RX5 89 (i3 (-1000001)) ∈ wsX5_about := by decide +kernel
theorem inX5_about_X5 : ∀ w ∈ wsX50, w ∈ wsX5_about := fun w h => List.mem_cons_of_mem _ (List.mem_append_right _ h)
theorem fX5_about_36 : aFL wsX5_about RX5 36 5 9 := ⟨_, _, _, rfl, inX5_about_X5, by decide, by decide +kernel⟩
theorem fX5_about_33 : aFL wsX5_about RX5 33 5 8 := ⟨_, _, _, rfl, inX5_about_X5, by decide, by decide +kernel⟩
theorem vX5_about_109 : aCV wsX5_about rmX5_about RX5 109 5 yX5_error wsX5_error rmX5_error 1 := ⟨TX5, _, _, _, _, _, rfl, gX5_about_X5_error, rfl, rfl, rfl, ⟨by decide +kernel, by decide +kernel, by decide +kernel⟩, by decide⟩
theorem kX5_about_90 : Cond.constant RX5 90 (i3 (-1000002)) ∈ wsX5_about := by decide +kernel
theorem inX5_unevenOf_X5 : ∀ w ∈ wsX50, w ∈ wsX5_unevenOf := fun w h => List.mem_cons_of_mem _ (List.mem_append_right _ h)
theorem fX5_unevenOf_7 : aFL wsX5_unevenOf RX5 7 5 0 := ⟨_, _, _, rfl, inX5_unevenOf_X5, by decide, by decide +kernel⟩
theorem vX5_unevenOf_109 : aCV wsX5_unevenOf rmX5_unevenOf RX5 109 5 yX5_error wsX5_error rmX5_error 1 := ⟨TX5, _, _, _, _, _, rfl, gX5_unevenOf_X5_error, rfl, rfl, rfl, ⟨by decide +kernel, by decide +kernel, by decide +kernel⟩, by decide⟩
theorem vX5_unevenOf_99 : aCS wsX5_unevenOf rmX5_unevenOf RX5 99 yX5_size wsX5_size rmX5_size 1 := ⟨_, _, _, _, gX5_unevenOf_X5_size, rfl, rfl, rfl, ⟨by decide +kernel, by decide +kernel, by decide +kernel⟩, by decide⟩
theorem vX5_unevenOf_112 : aCS wsX5_unevenOf rmX5_unevenOf RX5 112 yX5_with wsX5_with rmX5_with 3 := ⟨_, _, _, _, gX5_unevenOf_X5_with, rfl, rfl, rfl, ⟨by decide +kernel, by decide +kernel, by decide +kernel⟩, by decide⟩
theorem vX5_uneven_75 : aCS wsX5_uneven rmX5_uneven RX5 75 yX5_in wsX5_in rmX5_in 3 := ⟨_, _, _, _, gX5_uneven_X5_in, rfl, rfl, rfl, ⟨by decide +kernel, by decide +kernel, by decide +kernel⟩, by decide⟩
theorem vX5_uneven_116 : aCV wsX5_uneven rmX5_uneven RX5 116 5 yX5_unevenOf wsX5_unevenOf rmX5_unevenOf 1 := ⟨TX5, _, _, _, _, _, rfl, gX5_uneven_X5_unevenOf, rfl, rfl, rfl, ⟨by decide +kernel, by decide +kernel, by decide +kernel⟩, by decide⟩
theorem vX5_goes_99 : aCS wsX5_goes rmX5_goes RX5 99 yX5_size wsX5_size rmX5_size 1 := ⟨_, _, _, _, gX5_goes_X5_size, rfl, rfl, rfl, ⟨by decide +kernel, by decide +kernel, by decide +kernel⟩, by decide⟩
theorem inX5_goes_X5 : ∀ w ∈ wsX50, w ∈ wsX5_goes := fun w h => List.mem_cons_of_mem _ (List.mem_append_right _ h)
theorem fX5_goes_39 : aFL wsX5_goes RX5 39 5 10 := ⟨_, _, _, rfl, inX5_goes_X5, by decide, by decide +kernel⟩
theorem fX5_goes_42 : aFL wsX5_goes RX5 42 5 11 := ⟨_, _, _, rfl, inX5_goes_X5, by decide, by decide +kernel⟩
theorem inX5_layLeast_X5 : ∀ w ∈ wsX50, w ∈ wsX5_layLeast := fun w h => List.mem_cons_of_mem _ (List.mem_append_right _ h)
theorem fX5_layLeast_7 : aFL wsX5_layLeast RX5 7 5 0 := ⟨_, _, _, rfl, inX5_layLeast_X5, by decide, by decide +kernel⟩
theorem fX5_layLeast_33 : aFL wsX5_layLeast RX5 33 5 8 := ⟨_, _, _, rfl, inX5_layLeast_X5, by decide, by decide +kernel⟩
theorem fX5_layLeast_45 : aFL wsX5_layLeast RX5 45 5 12 := ⟨_, _, _, rfl, inX5_layLeast_X5, by decide, by decide +kernel⟩
theorem fX5_layLeast_106 : aFL wsX5_layLeast RX5 106 5 13 := ⟨_, _, _, rfl, inX5_layLeast_X5, by decide, by decide +kernel⟩
theorem vX5_layLeast_99 : aCS wsX5_layLeast rmX5_layLeast RX5 99 yX5_size wsX5_size rmX5_size 1 := ⟨_, _, _, _, gX5_layLeast_X5_size, rfl, rfl, rfl, ⟨by decide +kernel, by decide +kernel, by decide +kernel⟩, by decide⟩
theorem vX5_layLeast_119 : aCV wsX5_layLeast rmX5_layLeast RX5 119 5 yX5_goes wsX5_goes rmX5_goes 4 := ⟨TX5, _, _, _, _, _, rfl, gX5_layLeast_X5_goes, rfl, rfl, rfl, ⟨by decide +kernel, by decide +kernel, by decide +kernel⟩, by decide⟩
theorem fX5_layLeast_60 : aFL wsX5_layLeast RX5 60 5 20 := ⟨_, _, _, rfl, inX5_layLeast_X5, by decide, by decide +kernel⟩
theorem vX5_layLeast_112 : aCS wsX5_layLeast rmX5_layLeast RX5 112 yX5_with wsX5_with rmX5_with 3 := ⟨_, _, _, _, gX5_layLeast_X5_with, rfl, rfl, rfl, ⟨by decide +kernel, by decide +kernel, by decide +kernel⟩, by decide⟩
theorem vX5_best_75 : aCS wsX5_best rmX5_best RX5 75 yX5_in wsX5_in rmX5_in 3 := ⟨_, _, _, _, gX5_best_X5_in, rfl, rfl, rfl, ⟨by decide +kernel, by decide +kernel, by decide +kernel⟩, by decide⟩
theorem vX5_best_123 : aCV wsX5_best rmX5_best RX5 123 5 yX5_layLeast wsX5_layLeast rmX5_layLeast 1 := ⟨TX5, _, _, _, _, _, rfl, gX5_best_X5_layLeast, rfl, rfl, rfl, ⟨by decide +kernel, by decide +kernel, by decide +kernel⟩, by decide⟩
theorem inX5_best_X5 : ∀ w ∈ wsX50, w ∈ wsX5_best := fun w h => List.mem_cons_of_mem _ (List.mem_append_right _ h)
theorem fX5_best_60 : aFL wsX5_best RX5 60 5 20 := ⟨_, _, _, rfl, inX5_best_X5, by decide, by decide +kernel⟩
theorem fX5_best_36 : aFL wsX5_best RX5 36 5 9 := ⟨_, _, _, rfl, inX5_best_X5, by decide, by decide +kernel⟩
theorem fX5_best_7 : aFL wsX5_best RX5 7 5 0 := ⟨_, _, _, rfl, inX5_best_X5, by decide, by decide +kernel⟩
theorem vX5_best_119 : aCV wsX5_best rmX5_best RX5 119 5 yX5_goes wsX5_goes rmX5_goes 4 := ⟨TX5, _, _, _, _, _, rfl, gX5_best_X5_goes, rfl, rfl, rfl, ⟨by decide +kernel, by decide +kernel, by decide +kernel⟩, by decide⟩
theorem fX5_best_33 : aFL wsX5_best RX5 33 5 8 := ⟨_, _, _, rfl, inX5_best_X5, by decide, by decide +kernel⟩
theorem fX5_best_45 : aFL wsX5_best RX5 45 5 12 := ⟨_, _, _, rfl, inX5_best_X5, by decide, by decide +kernel⟩
theorem fX5_best_106 : aFL wsX5_best RX5 106 5 13 := ⟨_, _, _, rfl, inX5_best_X5, by decide, by decide +kernel⟩
theorem vX5_best_99 : aCS wsX5_best rmX5_best RX5 99 yX5_size wsX5_size rmX5_size 1 := ⟨_, _, _, _, gX5_best_X5_size, rfl, rfl, rfl, ⟨by decide +kernel, by decide +kernel, by decide +kernel⟩, by decide⟩
theorem vX5_kind_75 : aCS wsX5_kind rmX5_kind RX5 75 yX5_in wsX5_in rmX5_in 3 := ⟨_, _, _, _, gX5_kind_X5_in, rfl, rfl, rfl, ⟨by decide +kernel, by decide +kernel, by decide +kernel⟩, by decide⟩
theorem inX5_kind_X5 : ∀ w ∈ wsX50, w ∈ wsX5_kind := fun w h => List.mem_cons_of_mem _ (List.mem_append_right _ h)
theorem fX5_kind_82 : aFL wsX5_kind RX5 82 5 14 := ⟨_, _, _, rfl, inX5_kind_X5, by decide, by decide +kernel⟩
theorem fX5_kind_48 : aFL wsX5_kind RX5 48 5 15 := ⟨_, _, _, rfl, inX5_kind_X5, by decide, by decide +kernel⟩
theorem fX5_kind_51 : aFL wsX5_kind RX5 51 5 16 := ⟨_, _, _, rfl, inX5_kind_X5, by decide, by decide +kernel⟩
theorem fX5_kind_54 : aFL wsX5_kind RX5 54 5 17 := ⟨_, _, _, rfl, inX5_kind_X5, by decide, by decide +kernel⟩
theorem pX5_kind_82 : aFP wsX5_kind RX5 82 5 14 false := ⟨_, _, _, tyX5, rfl, inX5_kind_X5, tyX5_ok, nmX5, by decide, by decide +kernel, rfl, rfl⟩
theorem inX5_lies_X5 : ∀ w ∈ wsX50, w ∈ wsX5_lies := fun w h => List.mem_cons_of_mem _ (List.mem_append_right _ h)
theorem fX5_lies_48 : aFL wsX5_lies RX5 48 5 15 := ⟨_, _, _, rfl, inX5_lies_X5, by decide, by decide +kernel⟩
theorem fX5_lies_7 : aFL wsX5_lies RX5 7 5 0 := ⟨_, _, _, rfl, inX5_lies_X5, by decide, by decide +kernel⟩
theorem vX5_lies_109 : aCV wsX5_lies rmX5_lies RX5 109 5 yX5_error wsX5_error rmX5_error 1 := ⟨TX5, _, _, _, _, _, rfl, gX5_lies_X5_error, rfl, rfl, rfl, ⟨by decide +kernel, by decide +kernel, by decide +kernel⟩, by decide⟩
theorem vX5_lies_99 : aCS wsX5_lies rmX5_lies RX5 99 yX5_size wsX5_size rmX5_size 1 := ⟨_, _, _, _, gX5_lies_X5_size, rfl, rfl, rfl, ⟨by decide +kernel, by decide +kernel, by decide +kernel⟩, by decide⟩
theorem fX5_lies_54 : aFL wsX5_lies RX5 54 5 17 := ⟨_, _, _, rfl, inX5_lies_X5, by decide, by decide +kernel⟩
theorem inX5_canLie_X5 : ∀ w ∈ wsX50, w ∈ wsX5_canLie := fun w h => List.mem_cons_of_mem _ (List.mem_append_right _ h)
theorem fX5_canLie_82 : aFL wsX5_canLie RX5 82 5 14 := ⟨_, _, _, rfl, inX5_canLie_X5, by decide, by decide +kernel⟩
theorem vX5_canLie_75 : aCS wsX5_canLie rmX5_canLie RX5 75 yX5_in wsX5_in rmX5_in 3 := ⟨_, _, _, _, gX5_canLie_X5_in, rfl, rfl, rfl, ⟨by decide +kernel, by decide +kernel, by decide +kernel⟩, by decide⟩
theorem vX5_canLie_85 : aCV wsX5_canLie rmX5_canLie RX5 85 5 yX5_isPlace wsX5_isPlace rmX5_isPlace 1 := ⟨TX5, _, _, _, _, _, rfl, gX5_canLie_X5_isPlace, rfl, rfl, rfl, ⟨by decide +kernel, by decide +kernel, by decide +kernel⟩, by decide⟩
theorem vX5_canLie_127 : aCV wsX5_canLie rmX5_canLie RX5 127 5 yX5_lies wsX5_lies rmX5_lies 2 := ⟨TX5, _, _, _, _, _, rfl, gX5_canLie_X5_lies, rfl, rfl, rfl, ⟨by decide +kernel, by decide +kernel, by decide +kernel⟩, by decide⟩
theorem inX5_layCut_X5 : ∀ w ∈ wsX50, w ∈ wsX5_layCut := fun w h => List.mem_cons_of_mem _ (List.mem_append_right _ h)
theorem fX5_layCut_63 : aFL wsX5_layCut RX5 63 5 21 := ⟨_, _, _, rfl, inX5_layCut_X5, by decide, by decide +kernel⟩
theorem fX5_layCut_7 : aFL wsX5_layCut RX5 7 5 0 := ⟨_, _, _, rfl, inX5_layCut_X5, by decide, by decide +kernel⟩
theorem fX5_layCut_66 : aFL wsX5_layCut RX5 66 5 22 := ⟨_, _, _, rfl, inX5_layCut_X5, by decide, by decide +kernel⟩
theorem fX5_layCut_82 : aFL wsX5_layCut RX5 82 5 14 := ⟨_, _, _, rfl, inX5_layCut_X5, by decide, by decide +kernel⟩
theorem vX5_layCut_127 : aCV wsX5_layCut rmX5_layCut RX5 127 5 yX5_lies wsX5_lies rmX5_lies 2 := ⟨TX5, _, _, _, _, _, rfl, gX5_layCut_X5_lies, rfl, rfl, rfl, ⟨by decide +kernel, by decide +kernel, by decide +kernel⟩, by decide⟩
theorem fX5_layCut_51 : aFL wsX5_layCut RX5 51 5 16 := ⟨_, _, _, rfl, inX5_layCut_X5, by decide, by decide +kernel⟩
theorem fX5_layCut_48 : aFL wsX5_layCut RX5 48 5 15 := ⟨_, _, _, rfl, inX5_layCut_X5, by decide, by decide +kernel⟩
theorem vX5_cut_130 : aCV wsX5_cut rmX5_cut RX5 130 5 yX5_layCut wsX5_layCut rmX5_layCut 0 := ⟨TX5, _, _, _, _, _, rfl, gX5_cut_X5_layCut, rfl, rfl, rfl, ⟨by decide +kernel, by decide +kernel, by decide +kernel⟩, by decide⟩
theorem inX5_cut_X5 : ∀ w ∈ wsX50, w ∈ wsX5_cut := fun w h => List.mem_cons_of_mem _ (List.mem_append_right _ h)
theorem fX5_cut_63 : aFL wsX5_cut RX5 63 5 21 := ⟨_, _, _, rfl, inX5_cut_X5, by decide, by decide +kernel⟩
theorem vX5_cutAt_85 : aCV wsX5_cutAt rmX5_cutAt RX5 85 5 yX5_isPlace wsX5_isPlace rmX5_isPlace 1 := ⟨TX5, _, _, _, _, _, rfl, gX5_cutAt_X5_isPlace, rfl, rfl, rfl, ⟨by decide +kernel, by decide +kernel, by decide +kernel⟩, by decide⟩
theorem vX5_cutAt_130 : aCV wsX5_cutAt rmX5_cutAt RX5 130 5 yX5_layCut wsX5_layCut rmX5_layCut 0 := ⟨TX5, _, _, _, _, _, rfl, gX5_cutAt_X5_layCut, rfl, rfl, rfl, ⟨by decide +kernel, by decide +kernel, by decide +kernel⟩, by decide⟩
theorem inX5_cutAt_X5 : ∀ w ∈ wsX50, w ∈ wsX5_cutAt := fun w h => List.mem_cons_of_mem _ (List.mem_append_right _ h)
theorem fX5_cutAt_66 : aFL wsX5_cutAt RX5 66 5 22 := ⟨_, _, _, rfl, inX5_cutAt_X5, by decide, by decide +kernel⟩
theorem fX5_cutAt_48 : aFL wsX5_cutAt RX5 48 5 15 := ⟨_, _, _, rfl, inX5_cutAt_X5, by decide, by decide +kernel⟩
theorem inX5_grade_X5 : ∀ w ∈ wsX50, w ∈ wsX5_grade := fun w h => List.mem_cons_of_mem _ (List.mem_append_right _ h)
theorem fX5_grade_133 : aFL wsX5_grade RX5 133 5 18 := ⟨_, _, _, rfl, inX5_grade_X5, by decide, by decide +kernel⟩
theorem fX5_grade_57 : aFL wsX5_grade RX5 57 5 19 := ⟨_, _, _, rfl, inX5_grade_X5, by decide, by decide +kernel⟩
theorem pX5_grade_133 : aFP wsX5_grade RX5 133 5 18 false := ⟨_, _, _, tyX5, rfl, inX5_grade_X5, tyX5_ok, nmX5, by decide, by decide +kernel, rfl, rfl⟩
theorem inX5_isGrade_X5 : ∀ w ∈ wsX50, w ∈ wsX5_isGrade := fun w h => List.mem_cons_of_mem _ (List.mem_append_right _ h)
theorem fX5_isGrade_133 : aFL wsX5_isGrade RX5 133 5 18 := ⟨_, _, _, rfl, inX5_isGrade_X5, by decide, by decide +kernel⟩
theorem vX5_isGrade_75 : aCS wsX5_isGrade rmX5_isGrade RX5 75 yX5_in wsX5_in rmX5_in 3 := ⟨_, _, _, _, gX5_isGrade_X5_in, rfl, rfl, rfl, ⟨by decide +kernel, by decide +kernel, by decide +kernel⟩, by decide⟩
theorem vX5_cost_136 : aCV wsX5_cost rmX5_cost RX5 136 5 yX5_isGrade wsX5_isGrade rmX5_isGrade 1 := ⟨TX5, _, _, _, _, _, rfl, gX5_cost_X5_isGrade, rfl, rfl, rfl, ⟨by decide +kernel, by decide +kernel, by decide +kernel⟩, by decide⟩
theorem vX5_cost_75 : aCS wsX5_cost rmX5_cost RX5 75 yX5_in wsX5_in rmX5_in 3 := ⟨_, _, _, _, gX5_cost_X5_in, rfl, rfl, rfl, ⟨by decide +kernel, by decide +kernel, by decide +kernel⟩, by decide⟩
theorem inX5_cost_X5 : ∀ w ∈ wsX50, w ∈ wsX5_cost := fun w h => List.mem_cons_of_mem _ (List.mem_append_right _ h)
theorem fX5_cost_57 : aFL wsX5_cost RX5 57 5 19 := ⟨_, _, _, rfl, inX5_cost_X5, by decide, by decide +kernel⟩
theorem inX5_layRest_X5 : ∀ w ∈ wsX50, w ∈ wsX5_layRest := fun w h => List.mem_cons_of_mem _ (List.mem_append_right _ h)
theorem fX5_layRest_133 : aFL wsX5_layRest RX5 133 5 18 := ⟨_, _, _, rfl, inX5_layRest_X5, by decide, by decide +kernel⟩
theorem fX5_layRest_57 : aFL wsX5_layRest RX5 57 5 19 := ⟨_, _, _, rfl, inX5_layRest_X5, by decide, by decide +kernel⟩
theorem fX5_layRest_69 : aFL wsX5_layRest RX5 69 5 23 := ⟨_, _, _, rfl, inX5_layRest_X5, by decide, by decide +kernel⟩
theorem vX5_tour_136 : aCV wsX5_tour rmX5_tour RX5 136 5 yX5_isGrade wsX5_isGrade rmX5_isGrade 1 := ⟨TX5, _, _, _, _, _, rfl, gX5_tour_X5_isGrade, rfl, rfl, rfl, ⟨by decide +kernel, by decide +kernel, by decide +kernel⟩, by decide⟩
theorem vX5_tour_139 : aCV wsX5_tour rmX5_tour RX5 139 5 yX5_layRest wsX5_layRest rmX5_layRest 0 := ⟨TX5, _, _, _, _, _, rfl, gX5_tour_X5_layRest, rfl, rfl, rfl, ⟨by decide +kernel, by decide +kernel, by decide +kernel⟩, by decide⟩
theorem inX5_tour_X5 : ∀ w ∈ wsX50, w ∈ wsX5_tour := fun w h => List.mem_cons_of_mem _ (List.mem_append_right _ h)
theorem fX5_tour_69 : aFL wsX5_tour RX5 69 5 23 := ⟨_, _, _, rfl, inX5_tour_X5, by decide, by decide +kernel⟩
theorem vX5_tourAt_136 : aCV wsX5_tourAt rmX5_tourAt RX5 136 5 yX5_isGrade wsX5_isGrade rmX5_isGrade 1 := ⟨TX5, _, _, _, _, _, rfl, gX5_tourAt_X5_isGrade, rfl, rfl, rfl, ⟨by decide +kernel, by decide +kernel, by decide +kernel⟩, by decide⟩
theorem inX5_tourAt_X5 : ∀ w ∈ wsX50, w ∈ wsX5_tourAt := fun w h => List.mem_cons_of_mem _ (List.mem_append_right _ h)
theorem fX5_tourAt_133 : aFL wsX5_tourAt RX5 133 5 18 := ⟨_, _, _, rfl, inX5_tourAt_X5, by decide, by decide +kernel⟩
theorem vX5_tourAt_75 : aCS wsX5_tourAt rmX5_tourAt RX5 75 yX5_in wsX5_in rmX5_in 3 := ⟨_, _, _, _, gX5_tourAt_X5_in, rfl, rfl, rfl, ⟨by decide +kernel, by decide +kernel, by decide +kernel⟩, by decide⟩
theorem vX5_tourAt_139 : aCV wsX5_tourAt rmX5_tourAt RX5 139 5 yX5_layRest wsX5_layRest rmX5_layRest 0 := ⟨TX5, _, _, _, _, _, rfl, gX5_tourAt_X5_layRest, rfl, rfl, rfl, ⟨by decide +kernel, by decide +kernel, by decide +kernel⟩, by decide⟩
theorem fX5_tourAt_57 : aFL wsX5_tourAt RX5 57 5 19 := ⟨_, _, _, rfl, inX5_tourAt_X5, by decide, by decide +kernel⟩
theorem fX5_tourAt_69 : aFL wsX5_tourAt RX5 69 5 23 := ⟨_, _, _, rfl, inX5_tourAt_X5, by decide, by decide +kernel⟩
theorem inX5_fitting_X5 : ∀ w ∈ wsX50, w ∈ wsX5_fitting := fun w h => List.mem_cons_of_mem _ (List.mem_append_right _ h)
theorem fX5_fitting_79 : aFL wsX5_fitting RX5 79 5 1 := ⟨_, _, _, rfl, inX5_fitting_X5, by decide, by decide +kernel⟩
theorem fX5_fitting_23 : aFL wsX5_fitting RX5 23 5 5 := ⟨_, _, _, rfl, inX5_fitting_X5, by decide, by decide +kernel⟩
theorem inX5_told_X5 : ∀ w ∈ wsX50, w ∈ wsX5_told := fun w h => List.mem_cons_of_mem _ (List.mem_append_right _ h)
theorem fX5_told_7 : aFL wsX5_told RX5 7 5 0 := ⟨_, _, _, rfl, inX5_told_X5, by decide, by decide +kernel⟩
theorem fX5_told_79 : aFL wsX5_told RX5 79 5 1 := ⟨_, _, _, rfl, inX5_told_X5, by decide, by decide +kernel⟩
theorem vX5_told_142 : aCV wsX5_told rmX5_told RX5 142 5 yX5_fitting wsX5_fitting rmX5_fitting 0 := ⟨TX5, _, _, _, _, _, rfl, gX5_told_X5_fitting, rfl, rfl, rfl, ⟨by decide +kernel, by decide +kernel, by decide +kernel⟩, by decide⟩
theorem fX5_told_82 : aFL wsX5_told RX5 82 5 14 := ⟨_, _, _, rfl, inX5_told_X5, by decide, by decide +kernel⟩
theorem fX5_told_133 : aFL wsX5_told RX5 133 5 18 := ⟨_, _, _, rfl, inX5_told_X5, by decide, by decide +kernel⟩
theorem fX5_told_39 : aFL wsX5_told RX5 39 5 10 := ⟨_, _, _, rfl, inX5_told_X5, by decide, by decide +kernel⟩
theorem fX5_told_42 : aFL wsX5_told RX5 42 5 11 := ⟨_, _, _, rfl, inX5_told_X5, by decide, by decide +kernel⟩
theorem fX5_told_45 : aFL wsX5_told RX5 45 5 12 := ⟨_, _, _, rfl, inX5_told_X5, by decide, by decide +kernel⟩
theorem fX5_told_106 : aFL wsX5_told RX5 106 5 13 := ⟨_, _, _, rfl, inX5_told_X5, by decide, by decide +kernel⟩
end
section
/-! ===== pure words: rows of the state, the eye ===== -/
theorem byN (P : Nat → Prop) (h : ∀ n, (∀ m, m < n → P m) → P n) : ∀ n, P n := fun n => Nat.strongRecOn n h
def row (g : AG) (k : Nat) (f : Nat → Int) : AG := fun k' => if k' = k then f else g k'
theorem row_s (g : AG) (k : Nat) (f : Nat → Int) : row g k f k = f := by simp [row]
theorem row_n (g : AG) {k k' : Nat} (f : Nat → Int) (h : k' ≠ k) : row g k f k' = g k' := by simp [row, h]
theorem row_id (g : AG) (k : Nat) : row g k (g k) = g := by
  funext k'
  by_cases h : k' = k
  · subst h; rw [row_s]
  · rw [row_n _ _ h]
theorem aset_id (g : AG) (k j : Nat) : aset g k j (g k j) = g := by
  funext k' j'
  unfold aset
  split
  · rename_i h; rw [h.1, h.2]
  · rfl
theorem aset_row (g : AG) (k j : Nat) (v : Int) : aset g k j v = row g k (fun j' => if j' = j then v else g k j') := by
  funext k' j'
  unfold aset row
  by_cases h : k' = k
  · subst h; by_cases h2 : j' = j <;> simp [h2]
  · simp [h]
theorem aset_kn (g : AG) {k k' : Nat} (j : Nat) (v : Int) (h : k' ≠ k) : aset g k j v k' = g k' := by rw [aset_row, row_n _ _ h]
def fillU (f : Nat → Int) (n : Nat) (h : Nat → Int) : Nat → Int := fun j => if j < n then h j else f j
/-- knots joined: the group of b goes into that of a -/
def fitU (G : Nat → Int) (a b n : Nat) : Nat → Int := fun k => if k < n ∧ G k = G b then G a else G k
def fitV (G H : Nat → Int) (a b : Nat) (v : Int) (n : Nat) : Nat → Int := fun k => if k < n ∧ G k = G b then nrm (H k + (H a - v - H b)) else H k
def fitH (G H : Nat → Int) (a b : Nat) (v : Int) : Nat → Int := if G a = G b then H else fitV G H a b v 64
theorem fitU_same {G : Nat → Int} {a b : Nat} (h : G a = G b) (n : Nat) : fitU G a b n = G := by
  funext k
  unfold fitU
  split
  · rename_i h2; rw [h, h2.2]
  · rfl
theorem fitU_0 (G : Nat → Int) (a b : Nat) : fitU G a b 0 = G := by funext k; simp [fitU]
theorem fitV_0 (G H : Nat → Int) (a b : Nat) (v : Int) : fitV G H a b v 0 = H := by funext k; simp [fitV]
theorem fitU_y {G : Nat → Int} {a b n : Nat} (h : G n = G b) : fitU G a b (n + 1) = fun j => if j = n then G a else fitU G a b n j := by
  funext j
  unfold fitU
  by_cases h1 : j = n
  · subst h1; simp [h]
  · have : j < n + 1 ↔ j < n := by omega
    simp [h1, this]
theorem fitU_n {G : Nat → Int} {a b n : Nat} (h : ¬ G n = G b) : fitU G a b (n + 1) = fitU G a b n := by
  funext j
  unfold fitU
  by_cases h1 : j = n
  · subst h1; simp [h]
  · have : j < n + 1 ↔ j < n := by omega
    simp [this]
theorem fitV_y {G H : Nat → Int} {a b n : Nat} {v : Int} (h : G n = G b) : fitV G H a b v (n + 1) = fun j => if j = n then nrm (H n + (H a - v - H b)) else fitV G H a b v n j := by
  funext j
  unfold fitV
  by_cases h1 : j = n
  · subst h1; simp [h]
  · have : j < n + 1 ↔ j < n := by omega
    simp [h1, this]
theorem fitV_n {G H : Nat → Int} {a b n : Nat} {v : Int} (h : ¬ G n = G b) : fitV G H a b v (n + 1) = fitV G H a b v n := by
  funext j
  unfold fitV
  by_cases h1 : j = n
  · subst h1; simp [h]
  · have : j < n + 1 ↔ j < n := by omega
    simp [this]
theorem fitU_at (G : Nat → Int) (a b n : Nat) : fitU G a b n n = G n := by simp [fitU]
theorem fitV_at (G H : Nat → Int) (a b n : Nat) (v : Int) : fitV G H a b v n n = H n := by simp [fitV]
theorem fillU_0 (f h : Nat → Int) : fillU f 0 h = f := by funext j; simp [fillU]
theorem fillU_s (f h : Nat → Int) (n : Nat) : fillU f (n + 1) h = fun j => if j = n then h n else fillU f n h j := by
  funext j
  unfold fillU
  by_cases h1 : j = n
  · subst h1; simp
  · have : j < n + 1 ↔ j < n := by omega
    simp [h1, this]
/-- how many of the first n have none ahead of them that is alike -/
def fst1 (G : Nat → Int) (n : Nat) : Prop := ∀ j, j < n → G j ≠ G n
noncomputable def cntG (G : Nat → Int) : Nat → Int
  | 0 => 0
  | n + 1 => cntG G n + (@ite Int (fst1 G n) (Classical.propDecidable _) 1 0)
theorem cntG_b (G : Nat → Int) : ∀ n, 0 ≤ cntG G n ∧ cntG G n ≤ n
  | 0 => ⟨by simp [cntG], by simp [cntG]⟩
  | n + 1 => by
    have h := cntG_b G n
    unfold cntG
    split <;> omega
end
section
set_option maxHeartbeats 4000000 in
set_option maxRecDepth 100000 in
theorem ct_X4_within {v lo hi : Int} {g : AG} (h : aR v ∧ aR lo ∧ aR hi) : MetI yX4_within wsX4_within rmX4_within ShW [.inl v, .inl lo, .inl hi] g (fun x g' => g' = g ∧ (x = 0 ∨ x = 1) ∧ (x = 1 ↔ lo ≤ v ∧ v ≤ hi)) := by
  refine metI_of (cc := cX4_within) (nL := 3) true (by decide +kernel) rfl (Nat.le_of_ble_eq_true rfl) (fun q J C => ?_)
  show J q ShW 0 0 0 [some (.inl v), some (.inl lo), some (.inl hi)] [] g
  refine j_wf C (fun hw => ?_)
  obtain ⟨⟨_, _⟩, ⟨_, _⟩, ⟨_, _⟩⟩ := h
  refine j_iload_n C dX4_within_0 rfl ?_
  refine j_iload_n C dX4_within_1 rfl ?_
  refine j_icmp_lt C (tgt := 14) dX4_within_2 (by decide) (by first | omega | (refine ⟨?_, ?_⟩ <;> omega) | exact hw _ _ | exact nrm_R _) (by first | omega | (refine ⟨?_, ?_⟩ <;> omega) | exact hw _ _ | exact nrm_R _) (fun c_2 => ?_) (fun c_2 => ?_)
  · refine j_iconst C dX4_within_14 ?_
    refine j_iretI C dX4_within_15 (fun _ => by first | exact Or.inl rfl | exact Or.inr rfl | assumption | omega) (fun hw9 => ?_)
    exact ⟨rfl, by omega, by omega⟩
  · refine j_iload_n C dX4_within_5 rfl ?_
    refine j_iload_n C dX4_within_6 rfl ?_
    refine j_icmp_gt C (tgt := 14) dX4_within_7 (by decide) (by first | omega | (refine ⟨?_, ?_⟩ <;> omega) | exact hw _ _ | exact nrm_R _) (by first | omega | (refine ⟨?_, ?_⟩ <;> omega) | exact hw _ _ | exact nrm_R _) (fun c_7 => ?_) (fun c_7 => ?_)
    · refine j_iconst C dX4_within_14 ?_
      refine j_iretI C dX4_within_15 (fun _ => by first | exact Or.inl rfl | exact Or.inr rfl | assumption | omega) (fun hw9 => ?_)
      exact ⟨rfl, by omega, by omega⟩
    · refine j_iconst C dX4_within_10 ?_
      refine j_goto C (tgt := 15) dX4_within_11 (by decide) ?_
      refine j_iretI C dX4_within_15 (fun _ => by first | exact Or.inl rfl | exact Or.inr rfl | assumption | omega) (fun hw9 => ?_)
      exact ⟨rfl, by omega, by omega⟩
set_option maxHeartbeats 4000000 in
set_option maxRecDepth 100000 in
theorem ct_X5_in {v lo hi : Int} {g : AG} (h : aR v ∧ aR lo ∧ aR hi) : MetI yX5_in wsX5_in rmX5_in ShW [.inl v, .inl lo, .inl hi] g (fun x g' => g' = g ∧ (x = 0 ∨ x = 1) ∧ (x = 1 ↔ lo ≤ v ∧ v ≤ hi)) := by
  refine metI_of (cc := cX5_in) (nL := 3) true (by decide +kernel) rfl (Nat.le_of_ble_eq_true rfl) (fun q J C => ?_)
  show J q ShW 0 0 0 [some (.inl v), some (.inl lo), some (.inl hi)] [] g
  refine j_wf C (fun hw => ?_)
  obtain ⟨⟨_, _⟩, ⟨_, _⟩, ⟨_, _⟩⟩ := h
  refine j_iload_n C dX5_in_0 rfl ?_
  refine j_iload_n C dX5_in_1 rfl ?_
  refine j_icmp_lt C (tgt := 14) dX5_in_2 (by decide) (by first | omega | (refine ⟨?_, ?_⟩ <;> omega) | exact hw _ _ | exact nrm_R _) (by first | omega | (refine ⟨?_, ?_⟩ <;> omega) | exact hw _ _ | exact nrm_R _) (fun c_2 => ?_) (fun c_2 => ?_)
  · refine j_iconst C dX5_in_14 ?_
    refine j_iretI C dX5_in_15 (fun _ => by first | exact Or.inl rfl | exact Or.inr rfl | assumption | omega) (fun hw9 => ?_)
    exact ⟨rfl, by omega, by omega⟩
  · refine j_iload_n C dX5_in_5 rfl ?_
    refine j_iload_n C dX5_in_6 rfl ?_
    refine j_icmp_gt C (tgt := 14) dX5_in_7 (by decide) (by first | omega | (refine ⟨?_, ?_⟩ <;> omega) | exact hw _ _ | exact nrm_R _) (by first | omega | (refine ⟨?_, ?_⟩ <;> omega) | exact hw _ _ | exact nrm_R _) (fun c_7 => ?_) (fun c_7 => ?_)
    · refine j_iconst C dX5_in_14 ?_
      refine j_iretI C dX5_in_15 (fun _ => by first | exact Or.inl rfl | exact Or.inr rfl | assumption | omega) (fun hw9 => ?_)
      exact ⟨rfl, by omega, by omega⟩
    · refine j_iconst C dX5_in_10 ?_
      refine j_goto C (tgt := 15) dX5_in_11 (by decide) ?_
      refine j_iretI C dX5_in_15 (fun _ => by first | exact Or.inl rfl | exact Or.inr rfl | assumption | omega) (fun hw9 => ?_)
      exact ⟨rfl, by omega, by omega⟩
set_option maxHeartbeats 4000000 in
set_option maxRecDepth 100000 in
theorem ct_X5_size {v : Int} {g : AG} (h : aR v) : MetI yX5_size wsX5_size rmX5_size ShW [.inl v] g (fun x g' => g' = g ∧ x = (v.natAbs : Int)) := by
  refine metI_of (cc := cX5_size) (nL := 1) false (by decide +kernel) rfl (Nat.le_of_ble_eq_true rfl) (fun q J C => ?_)
  show J q ShW 0 0 0 [some (.inl v)] [] g
  refine j_wf C (fun hw => ?_)
  obtain ⟨_, _⟩ := h
  refine j_iload_n C dX5_size_0 rfl ?_
  refine j_if_ge C (tgt := 9) dX5_size_1 (by decide) (by first | omega | (refine ⟨?_, ?_⟩ <;> omega) | exact hw _ _ | exact nrm_R _) (fun c_1 => ?_) (fun c_1 => ?_)
  · refine j_iload_n C dX5_size_9 rfl ?_
    refine j_iretI C dX5_size_10 (by intro h; cases h) (fun hw9 => ?_)
    exact ⟨rfl, by omega⟩
  · refine j_iload_n C dX5_size_4 rfl ?_
    refine j_ineg C dX5_size_5 ?_
    refine j_goto C (tgt := 10) dX5_size_6 (by decide) ?_
    refine j_iretI C dX5_size_10 (by intro h; cases h) (fun hw9 => ?_)
    exact ⟨rfl, by omega⟩
end
section
set_option maxHeartbeats 4000000 in
set_option maxRecDepth 100000 in
theorem ct_J7_fill {Sh : List AC} {k N : Nat} {v : Int} {g : AG} (hs : Sh[k]? = some (.inr (false, N))) (h : N ≤ 2147483647) (hv : aR v) : MetV yJ7_fill_53178 wsJ7_fill_53178 rmJ7_fill_53178 Sh [.inr k, .inl v] g (fun g' => g' = row g k (fillU (g k) N (fun _ => v))) := by
  refine metV_of (cc := cJ7_fill_53178) (nL := 4) (by decide +kernel) rfl (Nat.le_of_ble_eq_true rfl) (fun q J C => ?_)
  show J q Sh 0 0 0 [some (.inr k), some (.inl v), none, none] [] g
  refine j_wf C (fun hw => ?_)
  have lp : ∀ n : Nat, ∀ (i : Int), ((N : Int) - i).toNat = n → 0 ≤ i → i ≤ N → J q Sh 0 0 5 [some (.inr k), some (.inl v), some (.inl i), some (.inl (N : Int))] [] (row g k (fillU (g k) i.toNat (fun _ => v))) := by
    refine byN _ (fun n ih i hn h0 h1 => ?_)
    refine j_wf C (fun hw => ?_)
    refine j_iload_n C dJ7_fill_53178_5 rfl ?_
    refine j_iload_n C dJ7_fill_53178_6 rfl ?_
    refine j_icmp_ge C (tgt := 20) dJ7_fill_53178_7 (by decide) (by first | omega | (refine ⟨?_, ?_⟩ <;> omega) | exact hw _ _ | exact nrm_R _) (by first | omega | (refine ⟨?_, ?_⟩ <;> omega) | exact hw _ _ | exact nrm_R _) (fun c_7 => ?_) (fun c_7 => ?_)
    · refine j_vretV C dJ7_fill_53178_20 (fun hw9 => ?_)
      show _ = _
      congr 3
      omega
    · refine j_aload_n C dJ7_fill_53178_10 rfl ?_
      refine j_iload_n C dJ7_fill_53178_11 rfl ?_
      refine j_iload_n C dJ7_fill_53178_12 rfl ?_
      refine j_iastore C hs (h) dJ7_fill_53178_13 (by first | omega | (refine ⟨?_, ?_⟩ <;> omega) | exact hw _ _ | exact nrm_R _) (by first | omega | (refine ⟨?_, ?_⟩ <;> omega) | exact hw _ _ | exact nrm_R _) (by first | omega | (refine ⟨?_, ?_⟩ <;> omega) | exact hw _ _ | exact nrm_R _) ?_
      refine j_iinc C dJ7_fill_53178_14 rfl ?_
      dsimp only [List.set]
      refine j_goto C (tgt := 5) dJ7_fill_53178_17 (by decide) ?_
      refine j_cast (ih _ (by omega) (i + 1) rfl (by omega) (by omega)) rfl rfl ?_
      rw [show (i + 1).toNat = i.toNat + 1 by omega, fillU_s]
      funext k' j
      by_cases hk : k' = k
      · subst hk
        simp [row, aset]
      · simp [row, aset, hk]
  refine j_iconst C dJ7_fill_53178_0 ?_
  refine j_istore_n C dJ7_fill_53178_1 (Nat.le_of_ble_eq_true rfl) ?_
  dsimp only [List.set]
  refine j_aload_n C dJ7_fill_53178_2 rfl ?_
  refine j_alen C hs dJ7_fill_53178_3 ?_
  refine j_istore_n C dJ7_fill_53178_4 (Nat.le_of_ble_eq_true rfl) ?_
  dsimp only [List.set]
  refine j_cast (lp _ 0 rfl (by omega) (by omega)) rfl rfl ?_
  rw [show (0 : Int).toNat = 0 from rfl, fillU_0, row_id]
set_option maxHeartbeats 4000000 in
set_option maxRecDepth 100000 in
theorem ct_X0_forget0 {Sh : List AC} {k : Nat} {g : AG} (hs : Sh[k]? = some (.inl (0, [some (some (k + 1)), some (some (k + 2)), some (some (k + 3)), some (some (k + 4)), none, none, some (some (k + 5)), some (some (k + 6))]))) (h5 : Sh[k + 5]? = some (.inr (false, 64))) (h6 : Sh[k + 6]? = some (.inr (false, 64))) : MetV yX0_forget wsX0_forget rmX0_forget Sh [.inr k] g (fun g' => g' = row (row (aset (aset g k 4 0) k 5 0) (k + 5) (fillU (g (k + 5)) 64 (fun j => (j : Int)))) (k + 6) (fillU (g (k + 6)) 64 (fun _ => 0))) := by
  refine metV_of (cc := cX0_forget) (nL := 2) (by decide +kernel) rfl (Nat.le_of_ble_eq_true rfl) (fun q J C => ?_)
  show J q Sh 0 0 0 [some (.inr k), none] [] g
  refine j_wf C (fun hw => ?_)
  have lp : ∀ n : Nat, ∀ (i : Int), ((64 : Int) - i).toNat = n → 0 ≤ i → i ≤ 64 → J q Sh 0 0 12 [some (.inr k), some (.inl i)] [] (row (row (aset (aset g k 4 0) k 5 0) (k + 5) (fillU (g (k + 5)) i.toNat (fun j => (j : Int)))) (k + 6) (fillU (g (k + 6)) i.toNat (fun _ => 0))) := by
    refine byN _ (fun n ih i hn h0 h1 => ?_)
    refine j_wf C (fun hw => ?_)
    refine j_iload_n C dX0_forget_12 rfl ?_
    refine j_bipush C dX0_forget_13 (by decide +kernel) ?_
    refine j_icmp_ge C (tgt := 38) dX0_forget_15 (by decide) (by first | omega | (refine ⟨?_, ?_⟩ <;> omega) | exact hw _ _ | exact nrm_R _) (by first | omega | (refine ⟨?_, ?_⟩ <;> omega) | exact hw _ _ | exact nrm_R _) (fun c_15 => ?_) (fun c_15 => ?_)
    · refine j_vretV C dX0_forget_38 (fun hw9 => ?_)
      show _ = _
      rw [show i.toNat = 64 by omega]
    · refine j_aload_n C dX0_forget_18 rfl ?_
      refine j_getR C fX0_forget_25 (by first | exact hs | exact h5 | exact h6) rfl dX0_forget_19 ?_
      refine j_iload_n C dX0_forget_22 rfl ?_
      refine j_iload_n C dX0_forget_23 rfl ?_
      refine j_iastore C (by first | exact hs | exact h5 | exact h6) (by decide) dX0_forget_24 (by first | omega | (refine ⟨?_, ?_⟩ <;> omega) | exact hw _ _ | exact nrm_R _) (by first | omega | (refine ⟨?_, ?_⟩ <;> omega) | exact hw _ _ | exact nrm_R _) (by first | omega | (refine ⟨?_, ?_⟩ <;> omega) | exact hw _ _ | exact nrm_R _) ?_
      refine j_aload_n C dX0_forget_25 rfl ?_
      refine j_getR C fX0_forget_28 (by first | exact hs | exact h5 | exact h6) rfl dX0_forget_26 ?_
      refine j_iload_n C dX0_forget_29 rfl ?_
      refine j_iconst C dX0_forget_30 ?_
      refine j_iastore C (by first | exact hs | exact h5 | exact h6) (by decide) dX0_forget_31 (by first | omega | (refine ⟨?_, ?_⟩ <;> omega) | exact hw _ _ | exact nrm_R _) (by first | omega | (refine ⟨?_, ?_⟩ <;> omega) | exact hw _ _ | exact nrm_R _) (by first | omega | (refine ⟨?_, ?_⟩ <;> omega) | exact hw _ _ | exact nrm_R _) ?_
      refine j_iinc C dX0_forget_32 rfl ?_
      dsimp only [List.set]
      refine j_goto C (tgt := 12) dX0_forget_35 (by decide) ?_
      refine j_cast (ih _ (by omega) (i + 1) rfl (by omega) (by omega)) rfl rfl ?_
      rw [show (i + 1).toNat = i.toNat + 1 by omega, fillU_s, fillU_s]
      have e1 : ((i.toNat : Nat) : Int) = i := by omega
      funext k' j
      by_cases a6 : k' = k + 6
      · subst a6
        simp [row, aset]
      · by_cases a5 : k' = k + 5
        · subst a5
          simp [row, aset, e1]
        · simp [row, aset, a6, a5]
  refine j_aload_n C dX0_forget_0 rfl ?_
  refine j_iconst C dX0_forget_1 ?_
  refine j_putI C pX0_forget_34 (by first | exact hs | exact h5 | exact h6) rfl (by first | omega | (refine ⟨?_, ?_⟩ <;> omega) | exact hw _ _ | exact nrm_R _) (by intro h; cases h) dX0_forget_2 ?_
  refine j_aload_n C dX0_forget_5 rfl ?_
  refine j_iconst C dX0_forget_6 ?_
  refine j_putI C pX0_forget_38 (by first | exact hs | exact h5 | exact h6) rfl (by first | omega | (refine ⟨?_, ?_⟩ <;> omega) | exact hw _ _ | exact nrm_R _) (by intro h; cases h) dX0_forget_7 ?_
  refine j_iconst C dX0_forget_10 ?_
  refine j_istore_n C dX0_forget_11 (Nat.le_of_ble_eq_true rfl) ?_
  dsimp only [List.set]
  refine j_cast (lp _ 0 rfl (by omega) (by omega)) rfl rfl ?_
  rw [show (0 : Int).toNat = 0 from rfl, fillU_0, fillU_0]
  funext k' j
  by_cases a6 : k' = k + 6
  · subst a6
    simp [row, aset]
  · by_cases a5 : k' = k + 5
    · subst a5
      simp [row, aset]
    · simp [row, aset, a6, a5]
/-- the eye forgets -/
def eyeF (g : AG) : AG := row (row (aset (aset g 1 4 0) 1 5 0) 6 (fillU (g 6) 64 (fun j => (j : Int)))) 7 (fillU (g 7) 64 (fun _ => 0))
theorem ct_X0_forget {g : AG} : MetV yX0_forget wsX0_forget rmX0_forget ShW [.inr 1] g (fun g' => g' = eyeF g) := ct_X0_forget0 (k := 1) rfl rfl rfl
/-- the model forgets -/
def modF (g : AG) : AG := row (row (aset g 21 1 0) 26 (fillU (g 26) 64 (fun j => (j : Int)))) 27 (fillU (g 27) 64 (fun _ => 0))
set_option maxHeartbeats 4000000 in
set_option maxRecDepth 100000 in
theorem ct_X5_begin {g : AG} : MetV yX5_begin wsX5_begin rmX5_begin ShW [.inr 21] g (fun g' => g' = modF g) := by
  refine metV_of (cc := cX5_begin) (nL := 2) (by decide +kernel) rfl (Nat.le_of_ble_eq_true rfl) (fun q J C => ?_)
  show J q ShW 0 0 0 [some (.inr 21), none] [] g
  refine j_wf C (fun hw => ?_)
  have lp : ∀ n : Nat, ∀ (i : Int), ((64 : Int) - i).toNat = n → 0 ≤ i → i ≤ 64 → J q ShW 0 0 7 [some (.inr 21), some (.inl i)] [] (row (row (aset g 21 1 0) 26 (fillU (g 26) i.toNat (fun j => (j : Int)))) 27 (fillU (g 27) i.toNat (fun _ => 0))) := by
    refine byN _ (fun n ih i hn h0 h1 => ?_)
    refine j_wf C (fun hw => ?_)
    refine j_iload_n C dX5_begin_7 rfl ?_
    refine j_bipush C dX5_begin_8 (by decide +kernel) ?_
    refine j_icmp_ge C (tgt := 33) dX5_begin_10 (by decide) (by first | omega | (refine ⟨?_, ?_⟩ <;> omega) | exact hw _ _ | exact nrm_R _) (by first | omega | (refine ⟨?_, ?_⟩ <;> omega) | exact hw _ _ | exact nrm_R _) (fun c_10 => ?_) (fun c_10 => ?_)
    · refine j_vretV C dX5_begin_33 (fun hw9 => ?_)
      show _ = _
      rw [show i.toNat = 64 by omega]
      rfl
    · refine j_aload_n C dX5_begin_13 rfl ?_
      refine j_getR C fX5_begin_27 rfl rfl dX5_begin_14 ?_
      refine j_iload_n C dX5_begin_17 rfl ?_
      refine j_iload_n C dX5_begin_18 rfl ?_
      refine j_iastore C rfl (by decide) dX5_begin_19 (by first | omega | (refine ⟨?_, ?_⟩ <;> omega) | exact hw _ _ | exact nrm_R _) (by first | omega | (refine ⟨?_, ?_⟩ <;> omega) | exact hw _ _ | exact nrm_R _) (by first | omega | (refine ⟨?_, ?_⟩ <;> omega) | exact hw _ _ | exact nrm_R _) ?_
      refine j_aload_n C dX5_begin_20 rfl ?_
      refine j_getR C fX5_begin_30 rfl rfl dX5_begin_21 ?_
      refine j_iload_n C dX5_begin_24 rfl ?_
      refine j_iconst C dX5_begin_25 ?_
      refine j_iastore C rfl (by decide) dX5_begin_26 (by first | omega | (refine ⟨?_, ?_⟩ <;> omega) | exact hw _ _ | exact nrm_R _) (by first | omega | (refine ⟨?_, ?_⟩ <;> omega) | exact hw _ _ | exact nrm_R _) (by first | omega | (refine ⟨?_, ?_⟩ <;> omega) | exact hw _ _ | exact nrm_R _) ?_
      refine j_iinc C dX5_begin_27 rfl ?_
      dsimp only [List.set]
      refine j_goto C (tgt := 7) dX5_begin_30 (by decide) ?_
      refine j_cast (ih _ (by omega) (i + 1) rfl (by omega) (by omega)) rfl rfl ?_
      rw [show (i + 1).toNat = i.toNat + 1 by omega, fillU_s, fillU_s]
      have e1 : ((i.toNat : Nat) : Int) = i := by omega
      funext k' j
      by_cases a6 : k' = 27
      · subst a6
        simp [row, aset]
      · by_cases a5 : k' = 26
        · subst a5
          simp [row, aset, e1]
        · simp [row, aset, a6, a5]
  refine j_aload_n C dX5_begin_0 rfl ?_
  refine j_iconst C dX5_begin_1 ?_
  refine j_putI C pX5_begin_79 rfl rfl (by first | omega | (refine ⟨?_, ?_⟩ <;> omega) | exact hw _ _ | exact nrm_R _) (by intro h; cases h) dX5_begin_2 ?_
  refine j_iconst C dX5_begin_5 ?_
  refine j_istore_n C dX5_begin_6 (Nat.le_of_ble_eq_true rfl) ?_
  dsimp only [List.set]
  refine j_cast (lp _ 0 rfl (by omega) (by omega)) rfl rfl ?_
  rw [show (0 : Int).toNat = 0 from rfl, fillU_0, fillU_0]
  funext k' j
  by_cases a6 : k' = 27
  · subst a6
    simp [row, aset]
  · by_cases a5 : k' = 26
    · subst a5
      simp [row, aset]
    · simp [row, aset, a6, a5]
set_option maxHeartbeats 4000000 in
set_option maxRecDepth 100000 in
theorem ct_X0_knotOfTime {t : Int} {g : AG} : MetI yX0_knotOfTime wsX0_knotOfTime rmX0_knotOfTime ShW [.inl t] g (fun x g' => g' = g ∧ x = 24 + t) := by
  refine metI_of (cc := cX0_knotOfTime) (nL := 1) false (by decide +kernel) rfl (Nat.le_of_ble_eq_true rfl) (fun q J C => ?_)
  show J q ShW 0 0 0 [some (.inl t)] [] g
  refine j_wf C (fun hw => ?_)
  refine j_bipush C dX0_knotOfTime_0 (by decide +kernel) ?_
  refine j_iload_n C dX0_knotOfTime_2 rfl ?_
  refine j_iadd C dX0_knotOfTime_3 ?_
  refine j_iretI C dX0_knotOfTime_4 (by intro h; cases h) (fun hw9 => ?_)
  exact ⟨rfl, rfl⟩
set_option maxHeartbeats 4000000 in
set_option maxRecDepth 100000 in
theorem ct_X0_count {g : AG} : MetI yX0_count wsX0_count rmX0_count ShW [.inr 1] g (fun x g' => g' = g ∧ x = g 1 4) := by
  refine metI_of (cc := cX0_count) (nL := 1) false (by decide +kernel) rfl (Nat.le_of_ble_eq_true rfl) (fun q J C => ?_)
  show J q ShW 0 0 0 [some (.inr 1)] [] g
  refine j_wf C (fun hw => ?_)
  refine j_aload_n C dX0_count_0 rfl ?_
  refine j_getI C fX0_count_34 rfl rfl dX0_count_1 ?_
  refine j_iretI C dX0_count_4 (by intro h; cases h) (fun hw9 => ?_)
  exact ⟨rfl, rfl⟩
set_option maxHeartbeats 4000000 in
set_option maxRecDepth 100000 in
theorem ct_X0_fittingCount {g : AG} : MetI yX0_fittingCount wsX0_fittingCount rmX0_fittingCount ShW [.inr 1] g (fun x g' => g' = g ∧ x = g 1 5) := by
  refine metI_of (cc := cX0_fittingCount) (nL := 1) false (by decide +kernel) rfl (Nat.le_of_ble_eq_true rfl) (fun q J C => ?_)
  show J q ShW 0 0 0 [some (.inr 1)] [] g
  refine j_wf C (fun hw => ?_)
  refine j_aload_n C dX0_fittingCount_0 rfl ?_
  refine j_getI C fX0_fittingCount_38 rfl rfl dX0_fittingCount_1 ?_
  refine j_iretI C dX0_fittingCount_4 (by intro h; cases h) (fun hw9 => ?_)
  exact ⟨rfl, rfl⟩
set_option maxHeartbeats 4000000 in
set_option maxRecDepth 100000 in
theorem ct_X0_timeOf {i : Int} {g : AG} (h : 0 ≤ i ∧ i < 100) : MetI yX0_timeOf wsX0_timeOf rmX0_timeOf ShW [.inr 1, .inl i] g (fun x g' => g' = g ∧ x = g 2 i.toNat) := by
  refine metI_of (cc := cX0_timeOf) (nL := 2) false (by decide +kernel) rfl (Nat.le_of_ble_eq_true rfl) (fun q J C => ?_)
  show J q ShW 0 0 0 [some (.inr 1), some (.inl i)] [] g
  refine j_wf C (fun hw => ?_)
  refine j_aload_n C dX0_timeOf_0 rfl ?_
  refine j_getR C fX0_timeOf_9 rfl rfl dX0_timeOf_1 ?_
  refine j_iload_n C dX0_timeOf_4 rfl ?_
  refine j_iaload C rfl (by decide) dX0_timeOf_5 (by first | omega | (refine ⟨?_, ?_⟩ <;> omega) | exact hw _ _ | exact nrm_R _) (by first | omega | (refine ⟨?_, ?_⟩ <;> omega) | exact hw _ _ | exact nrm_R _) ?_
  refine j_iretI C dX0_timeOf_6 (by intro h; cases h) (fun hw9 => ?_)
  exact ⟨rfl, rfl⟩
set_option maxHeartbeats 4000000 in
set_option maxRecDepth 100000 in
theorem ct_X0_placeOf {i : Int} {g : AG} (h : 0 ≤ i ∧ i < 100) : MetI yX0_placeOf wsX0_placeOf rmX0_placeOf ShW [.inr 1, .inl i] g (fun x g' => g' = g ∧ x = g 3 i.toNat) := by
  refine metI_of (cc := cX0_placeOf) (nL := 2) false (by decide +kernel) rfl (Nat.le_of_ble_eq_true rfl) (fun q J C => ?_)
  show J q ShW 0 0 0 [some (.inr 1), some (.inl i)] [] g
  refine j_wf C (fun hw => ?_)
  refine j_aload_n C dX0_placeOf_0 rfl ?_
  refine j_getR C fX0_placeOf_15 rfl rfl dX0_placeOf_1 ?_
  refine j_iload_n C dX0_placeOf_4 rfl ?_
  refine j_iaload C rfl (by decide) dX0_placeOf_5 (by first | omega | (refine ⟨?_, ?_⟩ <;> omega) | exact hw _ _ | exact nrm_R _) (by first | omega | (refine ⟨?_, ?_⟩ <;> omega) | exact hw _ _ | exact nrm_R _) ?_
  refine j_iretI C dX0_placeOf_6 (by intro h; cases h) (fun hw9 => ?_)
  exact ⟨rfl, rfl⟩
set_option maxHeartbeats 4000000 in
set_option maxRecDepth 100000 in
theorem ct_X0_valueOf {i : Int} {g : AG} (h : 0 ≤ i ∧ i < 100) : MetI yX0_valueOf wsX0_valueOf rmX0_valueOf ShW [.inr 1, .inl i] g (fun x g' => g' = g ∧ x = g 4 i.toNat) := by
  refine metI_of (cc := cX0_valueOf) (nL := 2) false (by decide +kernel) rfl (Nat.le_of_ble_eq_true rfl) (fun q J C => ?_)
  show J q ShW 0 0 0 [some (.inr 1), some (.inl i)] [] g
  refine j_wf C (fun hw => ?_)
  refine j_aload_n C dX0_valueOf_0 rfl ?_
  refine j_getR C fX0_valueOf_18 rfl rfl dX0_valueOf_1 ?_
  refine j_iload_n C dX0_valueOf_4 rfl ?_
  refine j_iaload C rfl (by decide) dX0_valueOf_5 (by first | omega | (refine ⟨?_, ?_⟩ <;> omega) | exact hw _ _ | exact nrm_R _) (by first | omega | (refine ⟨?_, ?_⟩ <;> omega) | exact hw _ _ | exact nrm_R _) ?_
  refine j_iretI C dX0_valueOf_6 (by intro h; cases h) (fun hw9 => ?_)
  exact ⟨rfl, rfl⟩
set_option maxHeartbeats 4000000 in
set_option maxRecDepth 100000 in
theorem ct_X0_isFitting {i : Int} {g : AG} (h : 0 ≤ i ∧ i < 100 ∧ (g 5 i.toNat = 0 ∨ g 5 i.toNat = 1)) : MetI yX0_isFitting wsX0_isFitting rmX0_isFitting ShW [.inr 1, .inl i] g (fun x g' => g' = g ∧ x = g 5 i.toNat) := by
  refine metI_of (cc := cX0_isFitting) (nL := 2) true (by decide +kernel) rfl (Nat.le_of_ble_eq_true rfl) (fun q J C => ?_)
  show J q ShW 0 0 0 [some (.inr 1), some (.inl i)] [] g
  refine j_wf C (fun hw => ?_)
  obtain ⟨h1, h2, h3⟩ := h
  refine j_aload_n C dX0_isFitting_0 rfl ?_
  refine j_getR C fX0_isFitting_21 rfl rfl dX0_isFitting_1 ?_
  refine j_iload_n C dX0_isFitting_4 rfl ?_
  refine j_baload C rfl (by decide) dX0_isFitting_5 (by first | omega | (refine ⟨?_, ?_⟩ <;> omega) | exact hw _ _ | exact nrm_R _) (by first | omega | (refine ⟨?_, ?_⟩ <;> omega) | exact hw _ _ | exact nrm_R _) ?_
  refine j_iretI C dX0_isFitting_6 (fun _ => by first | exact Or.inl rfl | exact Or.inr rfl | assumption | omega) (fun hw9 => ?_)
  exact ⟨rfl, rfl⟩
set_option maxHeartbeats 4000000 in
set_option maxRecDepth 100000 in
theorem ct_X0_hasAcross {p : Int} {g : AG} (h : 0 ≤ p ∧ p < 24) : MetI yX0_hasAcross wsX0_hasAcross rmX0_hasAcross ShW [.inr 1, .inl p] g (fun x g' => g' = g ∧ (x = 0 ∨ x = 1) ∧ (x = 1 ↔ g 6 p.toNat = g 6 0)) := by
  refine metI_of (cc := cX0_hasAcross) (nL := 2) true (by decide +kernel) rfl (Nat.le_of_ble_eq_true rfl) (fun q J C => ?_)
  show J q ShW 0 0 0 [some (.inr 1), some (.inl p)] [] g
  refine j_wf C (fun hw => ?_)
  refine j_aload_n C dX0_hasAcross_0 rfl ?_
  refine j_getR C fX0_hasAcross_25 rfl rfl dX0_hasAcross_1 ?_
  refine j_iload_n C dX0_hasAcross_4 rfl ?_
  refine j_iaload C rfl (by decide) dX0_hasAcross_5 (by first | omega | (refine ⟨?_, ?_⟩ <;> omega) | exact hw _ _ | exact nrm_R _) (by first | omega | (refine ⟨?_, ?_⟩ <;> omega) | exact hw _ _ | exact nrm_R _) ?_
  refine j_aload_n C dX0_hasAcross_6 rfl ?_
  refine j_getR C fX0_hasAcross_25 rfl rfl dX0_hasAcross_7 ?_
  refine j_iconst C dX0_hasAcross_10 ?_
  refine j_iaload C rfl (by decide) dX0_hasAcross_11 (by first | omega | (refine ⟨?_, ?_⟩ <;> omega) | exact hw _ _ | exact nrm_R _) (by first | omega | (refine ⟨?_, ?_⟩ <;> omega) | exact hw _ _ | exact nrm_R _) ?_
  refine j_icmp_ne C (tgt := 19) dX0_hasAcross_12 (by decide) (by first | omega | (refine ⟨?_, ?_⟩ <;> omega) | exact hw _ _ | exact nrm_R _) (by first | omega | (refine ⟨?_, ?_⟩ <;> omega) | exact hw _ _ | exact nrm_R _) (fun c_12 => ?_) (fun c_12 => ?_)
  · refine j_iconst C dX0_hasAcross_19 ?_
    refine j_iretI C dX0_hasAcross_20 (fun _ => by first | exact Or.inl rfl | exact Or.inr rfl | assumption | omega) (fun hw9 => ?_)
    first | exact ⟨rfl, Or.inr rfl, fun _ => c_12, fun _ => rfl⟩ | exact ⟨rfl, Or.inl rfl, fun h => absurd h (by decide), fun h => absurd h c_12⟩
  · refine j_iconst C dX0_hasAcross_15 ?_
    refine j_goto C (tgt := 20) dX0_hasAcross_16 (by decide) ?_
    refine j_iretI C dX0_hasAcross_20 (fun _ => by first | exact Or.inl rfl | exact Or.inr rfl | assumption | omega) (fun hw9 => ?_)
    first | exact ⟨rfl, Or.inr rfl, fun _ => c_12, fun _ => rfl⟩ | exact ⟨rfl, Or.inl rfl, fun h => absurd h (by decide), fun h => absurd h c_12⟩
set_option maxHeartbeats 4000000 in
set_option maxRecDepth 100000 in
theorem ct_X0_acrossOf {p : Int} {g : AG} (h : 0 ≤ p ∧ p < 24) : MetI yX0_acrossOf wsX0_acrossOf rmX0_acrossOf ShW [.inr 1, .inl p] g (fun x g' => g' = g ∧ x = nrm (g 7 0 - g 7 p.toNat)) := by
  refine metI_of (cc := cX0_acrossOf) (nL := 2) false (by decide +kernel) rfl (Nat.le_of_ble_eq_true rfl) (fun q J C => ?_)
  show J q ShW 0 0 0 [some (.inr 1), some (.inl p)] [] g
  refine j_wf C (fun hw => ?_)
  refine j_aload_n C dX0_acrossOf_0 rfl ?_
  refine j_getR C fX0_acrossOf_28 rfl rfl dX0_acrossOf_1 ?_
  refine j_iconst C dX0_acrossOf_4 ?_
  refine j_iaload C rfl (by decide) dX0_acrossOf_5 (by first | omega | (refine ⟨?_, ?_⟩ <;> omega) | exact hw _ _ | exact nrm_R _) (by first | omega | (refine ⟨?_, ?_⟩ <;> omega) | exact hw _ _ | exact nrm_R _) ?_
  refine j_aload_n C dX0_acrossOf_6 rfl ?_
  refine j_getR C fX0_acrossOf_28 rfl rfl dX0_acrossOf_7 ?_
  refine j_iload_n C dX0_acrossOf_10 rfl ?_
  refine j_iaload C rfl (by decide) dX0_acrossOf_11 (by first | omega | (refine ⟨?_, ?_⟩ <;> omega) | exact hw _ _ | exact nrm_R _) (by first | omega | (refine ⟨?_, ?_⟩ <;> omega) | exact hw _ _ | exact nrm_R _) ?_
  refine j_isub C dX0_acrossOf_12 ?_
  refine j_nrm C ?_
  refine j_iretI C dX0_acrossOf_13 (by intro h; cases h) (fun hw9 => ?_)
  exact ⟨rfl, rfl⟩
set_option maxHeartbeats 4000000 in
set_option maxRecDepth 100000 in
theorem ct_X0_timesHangTogether {t u : Int} {g : AG} (h : 0 ≤ t ∧ t ≤ 39 ∧ 0 ≤ u ∧ u ≤ 39) : MetI yX0_timesHangTogether wsX0_timesHangTogether rmX0_timesHangTogether ShW [.inr 1, .inl t, .inl u] g (fun x g' => g' = g ∧ (x = 0 ∨ x = 1) ∧ (x = 1 ↔ g 6 (24 + t).toNat = g 6 (24 + u).toNat)) := by
  refine metI_of (cc := cX0_timesHangTogether) (nL := 3) true (by decide +kernel) rfl (Nat.le_of_ble_eq_true rfl) (fun q J C => ?_)
  show J q ShW 0 0 0 [some (.inr 1), some (.inl t), some (.inl u)] [] g
  refine j_wf C (fun hw => ?_)
  refine j_aload_n C dX0_timesHangTogether_0 rfl ?_
  refine j_getR C fX0_timesHangTogether_25 rfl rfl dX0_timesHangTogether_1 ?_
  refine j_iload_n C dX0_timesHangTogether_4 rfl ?_
  refine j_callSi1 C vX0_timesHangTogether_41 rfl (Nat.le_of_ble_eq_true rfl) ⟨Nat.zero_le _, Nat.zero_le _⟩ dX0_timesHangTogether_5 (ct_X0_knotOfTime ) (fun x_5 g_5 hk_5 => ?_)
  obtain ⟨e_5, rfl⟩ := hk_5
  have e_5 := e_5.symm
  subst e_5
  refine j_iaload C rfl (by decide) dX0_timesHangTogether_8 (by first | omega | (refine ⟨?_, ?_⟩ <;> omega) | exact hw _ _ | exact nrm_R _) (by first | omega | (refine ⟨?_, ?_⟩ <;> omega) | exact hw _ _ | exact nrm_R _) ?_
  refine j_aload_n C dX0_timesHangTogether_9 rfl ?_
  refine j_getR C fX0_timesHangTogether_25 rfl rfl dX0_timesHangTogether_10 ?_
  refine j_iload_n C dX0_timesHangTogether_13 rfl ?_
  refine j_callSi1 C vX0_timesHangTogether_41 rfl (Nat.le_of_ble_eq_true rfl) ⟨Nat.zero_le _, Nat.zero_le _⟩ dX0_timesHangTogether_14 (ct_X0_knotOfTime ) (fun x_14 g_14 hk_14 => ?_)
  obtain ⟨e_14, rfl⟩ := hk_14
  have e_14 := e_14.symm
  subst e_14
  refine j_iaload C rfl (by decide) dX0_timesHangTogether_17 (by first | omega | (refine ⟨?_, ?_⟩ <;> omega) | exact hw _ _ | exact nrm_R _) (by first | omega | (refine ⟨?_, ?_⟩ <;> omega) | exact hw _ _ | exact nrm_R _) ?_
  refine j_icmp_ne C (tgt := 25) dX0_timesHangTogether_18 (by decide) (by first | omega | (refine ⟨?_, ?_⟩ <;> omega) | exact hw _ _ | exact nrm_R _) (by first | omega | (refine ⟨?_, ?_⟩ <;> omega) | exact hw _ _ | exact nrm_R _) (fun c_18 => ?_) (fun c_18 => ?_)
  · refine j_iconst C dX0_timesHangTogether_25 ?_
    refine j_iretI C dX0_timesHangTogether_26 (fun _ => by first | exact Or.inl rfl | exact Or.inr rfl | assumption | omega) (fun hw9 => ?_)
    first | exact ⟨rfl, Or.inr rfl, fun _ => c_18, fun _ => rfl⟩ | exact ⟨rfl, Or.inl rfl, fun h => absurd h (by decide), fun h => absurd h c_18⟩
  · refine j_iconst C dX0_timesHangTogether_21 ?_
    refine j_goto C (tgt := 26) dX0_timesHangTogether_22 (by decide) ?_
    refine j_iretI C dX0_timesHangTogether_26 (fun _ => by first | exact Or.inl rfl | exact Or.inr rfl | assumption | omega) (fun hw9 => ?_)
    first | exact ⟨rfl, Or.inr rfl, fun _ => c_18, fun _ => rfl⟩ | exact ⟨rfl, Or.inl rfl, fun h => absurd h (by decide), fun h => absurd h c_18⟩
set_option maxHeartbeats 4000000 in
set_option maxRecDepth 100000 in
theorem ct_X0_moreAlong {t u : Int} {g : AG} (h : 0 ≤ t ∧ t ≤ 39 ∧ 0 ≤ u ∧ u ≤ 39) : MetI yX0_moreAlong wsX0_moreAlong rmX0_moreAlong ShW [.inr 1, .inl t, .inl u] g (fun x g' => g' = g ∧ x = nrm (g 7 (24 + t).toNat - g 7 (24 + u).toNat)) := by
  refine metI_of (cc := cX0_moreAlong) (nL := 3) false (by decide +kernel) rfl (Nat.le_of_ble_eq_true rfl) (fun q J C => ?_)
  show J q ShW 0 0 0 [some (.inr 1), some (.inl t), some (.inl u)] [] g
  refine j_wf C (fun hw => ?_)
  refine j_aload_n C dX0_moreAlong_0 rfl ?_
  refine j_getR C fX0_moreAlong_28 rfl rfl dX0_moreAlong_1 ?_
  refine j_iload_n C dX0_moreAlong_4 rfl ?_
  refine j_callSi1 C vX0_moreAlong_41 rfl (Nat.le_of_ble_eq_true rfl) ⟨Nat.zero_le _, Nat.zero_le _⟩ dX0_moreAlong_5 (ct_X0_knotOfTime ) (fun x_5 g_5 hk_5 => ?_)
  obtain ⟨e_5, rfl⟩ := hk_5
  have e_5 := e_5.symm
  subst e_5
  refine j_iaload C rfl (by decide) dX0_moreAlong_8 (by first | omega | (refine ⟨?_, ?_⟩ <;> omega) | exact hw _ _ | exact nrm_R _) (by first | omega | (refine ⟨?_, ?_⟩ <;> omega) | exact hw _ _ | exact nrm_R _) ?_
  refine j_aload_n C dX0_moreAlong_9 rfl ?_
  refine j_getR C fX0_moreAlong_28 rfl rfl dX0_moreAlong_10 ?_
  refine j_iload_n C dX0_moreAlong_13 rfl ?_
  refine j_callSi1 C vX0_moreAlong_41 rfl (Nat.le_of_ble_eq_true rfl) ⟨Nat.zero_le _, Nat.zero_le _⟩ dX0_moreAlong_14 (ct_X0_knotOfTime ) (fun x_14 g_14 hk_14 => ?_)
  obtain ⟨e_14, rfl⟩ := hk_14
  have e_14 := e_14.symm
  subst e_14
  refine j_iaload C rfl (by decide) dX0_moreAlong_17 (by first | omega | (refine ⟨?_, ?_⟩ <;> omega) | exact hw _ _ | exact nrm_R _) (by first | omega | (refine ⟨?_, ?_⟩ <;> omega) | exact hw _ _ | exact nrm_R _) ?_
  refine j_isub C dX0_moreAlong_18 ?_
  refine j_nrm C ?_
  refine j_iretI C dX0_moreAlong_19 (by intro h; cases h) (fun hw9 => ?_)
  exact ⟨rfl, rfl⟩
set_option maxHeartbeats 4000000 in
set_option maxRecDepth 100000 in
theorem ct_X0_isFirstOfGroup {p : Int} {g : AG} (h : 0 ≤ p ∧ p < 24) : MetI yX0_isFirstOfGroup wsX0_isFirstOfGroup rmX0_isFirstOfGroup ShW [.inr 1, .inl p] g (fun x g' => g' = g ∧ (x = 0 ∨ x = 1) ∧ (x = 1 ↔ fst1 (g 6) p.toNat)) := by
  refine metI_of (cc := cX0_isFirstOfGroup) (nL := 3) true (by decide +kernel) rfl (Nat.le_of_ble_eq_true rfl) (fun q J C => ?_)
  show J q ShW 0 0 0 [some (.inr 1), some (.inl p), none] [] g
  refine j_wf C (fun hw => ?_)
  have lp : ∀ n : Nat, ∀ (i : Int), (p - i).toNat = n → 0 ≤ i → i ≤ p → (∀ j, j < i.toNat → g 6 j ≠ g 6 p.toNat) → J q ShW 0 0 2 [some (.inr 1), some (.inl p), some (.inl i)] [] g := by
    refine byN _ (fun n ih i hn h0 h1 hf => ?_)
    refine j_iload_n C dX0_isFirstOfGroup_2 rfl ?_
    refine j_iload_n C dX0_isFirstOfGroup_3 rfl ?_
    refine j_icmp_ge C (tgt := 30) dX0_isFirstOfGroup_4 (by decide) (by first | omega | (refine ⟨?_, ?_⟩ <;> omega) | exact hw _ _ | exact nrm_R _) (by first | omega | (refine ⟨?_, ?_⟩ <;> omega) | exact hw _ _ | exact nrm_R _) (fun c_4 => ?_) (fun c_4 => ?_)
    · refine j_iconst C dX0_isFirstOfGroup_30 ?_
      refine j_iretI C dX0_isFirstOfGroup_31 (fun _ => by first | exact Or.inl rfl | exact Or.inr rfl | assumption | omega) (fun hw9 => ?_)
      refine ⟨rfl, Or.inr rfl, fun _ => ?_, fun _ => rfl⟩
      rw [show p.toNat = i.toNat by omega] at hf ⊢
      exact hf
    · refine j_aload_n C dX0_isFirstOfGroup_7 rfl ?_
      refine j_getR C fX0_isFirstOfGroup_25 rfl rfl dX0_isFirstOfGroup_8 ?_
      refine j_iload_n C dX0_isFirstOfGroup_11 rfl ?_
      refine j_iaload C rfl (by decide) dX0_isFirstOfGroup_12 (by first | omega | (refine ⟨?_, ?_⟩ <;> omega) | exact hw _ _ | exact nrm_R _) (by first | omega | (refine ⟨?_, ?_⟩ <;> omega) | exact hw _ _ | exact nrm_R _) ?_
      refine j_aload_n C dX0_isFirstOfGroup_13 rfl ?_
      refine j_getR C fX0_isFirstOfGroup_25 rfl rfl dX0_isFirstOfGroup_14 ?_
      refine j_iload_n C dX0_isFirstOfGroup_17 rfl ?_
      refine j_iaload C rfl (by decide) dX0_isFirstOfGroup_18 (by first | omega | (refine ⟨?_, ?_⟩ <;> omega) | exact hw _ _ | exact nrm_R _) (by first | omega | (refine ⟨?_, ?_⟩ <;> omega) | exact hw _ _ | exact nrm_R _) ?_
      refine j_icmp_ne C (tgt := 24) dX0_isFirstOfGroup_19 (by decide) (by first | omega | (refine ⟨?_, ?_⟩ <;> omega) | exact hw _ _ | exact nrm_R _) (by first | omega | (refine ⟨?_, ?_⟩ <;> omega) | exact hw _ _ | exact nrm_R _) (fun c_19 => ?_) (fun c_19 => ?_)
      · refine j_iinc C dX0_isFirstOfGroup_24 rfl ?_
        dsimp only [List.set]
        refine j_goto C (tgt := 2) dX0_isFirstOfGroup_27 (by decide) ?_
        refine ih _ (by omega) (i + 1) rfl (by omega) (by omega) (fun j hj => ?_)
        by_cases hji : j = i.toNat
        · subst hji
          exact c_19
        · exact hf j (by omega)
      · refine j_iconst C dX0_isFirstOfGroup_22 ?_
        refine j_iretI C dX0_isFirstOfGroup_23 (fun _ => by first | exact Or.inl rfl | exact Or.inr rfl | assumption | omega) (fun hw9 => ?_)
        exact ⟨rfl, Or.inl rfl, fun h => absurd h (by decide), fun h => absurd c_19 (h i.toNat (by omega))⟩
  refine j_iconst C dX0_isFirstOfGroup_0 ?_
  refine j_istore_n C dX0_isFirstOfGroup_1 (Nat.le_of_ble_eq_true rfl) ?_
  dsimp only [List.set]
  exact lp _ 0 rfl (by omega) (by omega) (fun j hj => absurd hj (by simp))
set_option maxHeartbeats 4000000 in
set_option maxRecDepth 100000 in
theorem ct_X0_countGroups {n : Int} {g : AG} (h : 0 ≤ n ∧ n ≤ 24) : MetI yX0_countGroups wsX0_countGroups rmX0_countGroups ShW [.inr 1, .inl n] g (fun x g' => g' = g ∧ x = cntG (g 6) n.toNat) := by
  refine metI_of (cc := cX0_countGroups) (nL := 4) false (by decide +kernel) rfl (Nat.le_of_ble_eq_true rfl) (fun q J C => ?_)
  show J q ShW 0 0 0 [some (.inr 1), some (.inl n), none, none] [] g
  refine j_wf C (fun hw => ?_)
  have lp : ∀ k : Nat, ∀ (i : Int), (n - i).toNat = k → 0 ≤ i → i ≤ n → J q ShW 0 0 4 [some (.inr 1), some (.inl n), some (.inl (cntG (g 6) i.toNat)), some (.inl i)] [] g := by
    refine byN _ (fun k ih i hn h0 h1 => ?_)
    have hc := cntG_b (g 6) i.toNat
    refine j_iload_n C dX0_countGroups_4 rfl ?_
    refine j_iload_n C dX0_countGroups_5 rfl ?_
    refine j_icmp_ge C (tgt := 26) dX0_countGroups_6 (by decide) (by first | omega | (refine ⟨?_, ?_⟩ <;> omega) | exact hw _ _ | exact nrm_R _) (by first | omega | (refine ⟨?_, ?_⟩ <;> omega) | exact hw _ _ | exact nrm_R _) (fun c_6 => ?_) (fun c_6 => ?_)
    · refine j_iload_n C dX0_countGroups_26 rfl ?_
      refine j_iretI C dX0_countGroups_27 (by intro h; cases h) (fun hw9 => ?_)
      exact ⟨rfl, by rw [show i.toNat = n.toNat by omega]⟩
    · refine j_aload_n C dX0_countGroups_9 rfl ?_
      refine j_iload_n C dX0_countGroups_10 rfl ?_
      refine j_callVi1 C vX0_countGroups_49 rfl rfl (Nat.le_of_ble_eq_true rfl) ⟨Nat.zero_le _, Nat.zero_le _⟩ dX0_countGroups_11 (ct_X0_isFirstOfGroup (by first | omega | (refine ⟨?_, ?_⟩ <;> omega) | exact hw _ _ | exact nrm_R _)) (fun x_11 g_11 hk_11 => ?_)
      obtain ⟨e_11, hb_11, hi_11⟩ := hk_11
      have e_11 := e_11.symm
      subst e_11
      refine j_if_eq C (tgt := 20) dX0_countGroups_14 (by decide) (by first | omega | (refine ⟨?_, ?_⟩ <;> omega) | exact hw _ _ | exact nrm_R _) (fun c_14 => ?_) (fun c_14 => ?_)
      · refine j_iinc C dX0_countGroups_20 rfl ?_
        dsimp only [List.set]
        refine j_goto C (tgt := 4) dX0_countGroups_23 (by decide) ?_
        refine j_cast (ih _ (by omega) (i + 1) rfl (by omega) (by omega)) ?_ rfl rfl
        rw [show (i + 1).toNat = i.toNat + 1 by omega, cntG]
        by_cases hf : fst1 (g 6) i.toNat
        · rw [if_pos hf]
          all_goals first | rfl | exact absurd (hi_11.mpr hf) (by omega)
        · rw [if_neg hf, Int.add_zero]
          all_goals first | rfl | exact absurd (hi_11.mp (by omega)) hf
      · refine j_iinc C dX0_countGroups_17 rfl ?_
        dsimp only [List.set]
        refine j_iinc C dX0_countGroups_20 rfl ?_
        dsimp only [List.set]
        refine j_goto C (tgt := 4) dX0_countGroups_23 (by decide) ?_
        refine j_cast (ih _ (by omega) (i + 1) rfl (by omega) (by omega)) ?_ rfl rfl
        rw [show (i + 1).toNat = i.toNat + 1 by omega, cntG]
        by_cases hf : fst1 (g 6) i.toNat
        · rw [if_pos hf]
          all_goals first | rfl | exact absurd (hi_11.mpr hf) (by omega)
        · rw [if_neg hf, Int.add_zero]
          all_goals first | rfl | exact absurd (hi_11.mp (by omega)) hf
  refine j_iconst C dX0_countGroups_0 ?_
  refine j_istore_n C dX0_countGroups_1 (Nat.le_of_ble_eq_true rfl) ?_
  dsimp only [List.set]
  refine j_iconst C dX0_countGroups_2 ?_
  refine j_istore_n C dX0_countGroups_3 (Nat.le_of_ble_eq_true rfl) ?_
  dsimp only [List.set]
  exact lp _ 0 rfl (by omega) (by omega)
set_option maxHeartbeats 4000000 in
set_option maxRecDepth 100000 in
theorem ct_X0_fit {tk pk v : Int} {g : AG} (h : 0 ≤ tk ∧ tk < 64 ∧ 0 ≤ pk ∧ pk < 64 ∧ aR v) : MetI yX0_fit wsX0_fit rmX0_fit ShW [.inr 1, .inl tk, .inl pk, .inl v] g (fun x g' => (x = 0 ∨ x = 1) ∧ (x = 1 ↔ (g 6 tk.toNat = g 6 pk.toNat → nrm (g 7 tk.toNat - g 7 pk.toNat) = v)) ∧ g' = row (row g 6 (fitU (g 6) tk.toNat pk.toNat 64)) 7 (fitH (g 6) (g 7) tk.toNat pk.toNat v)) := by
  refine metI_of (cc := cX0_fit) (nL := 8) true (by decide +kernel) rfl (Nat.le_of_ble_eq_true rfl) (fun q J C => ?_)
  show J q ShW 0 0 0 [some (.inr 1), some (.inl tk), some (.inl pk), some (.inl v), none, none, none, none] [] g
  refine j_wf C (fun hw => ?_)
  obtain ⟨h1, h2, h3, h4, h5, h6⟩ := h
  have lp : g 6 tk.toNat ≠ g 6 pk.toNat → ∀ n : Nat, ∀ (i : Int), ((64 : Int) - i).toNat = n → 0 ≤ i → i ≤ 64 → J q ShW 0 0 74 [some (.inr 1), some (.inl tk), some (.inl pk), some (.inl v), some (.inl (g 7 tk.toNat - v - g 7 pk.toNat)), some (.inl (g 6 pk.toNat)), some (.inl (g 6 tk.toNat)), some (.inl i)] [] (row (row g 6 (fitU (g 6) tk.toNat pk.toNat i.toNat)) 7 (fitV (g 6) (g 7) tk.toNat pk.toNat v i.toNat)) := by
    intro hne
    refine byN _ (fun n ih i hn h0 h9 => ?_)
    have hwg := hw
    refine j_wf C (fun hw => ?_)
    refine j_iload C dX0_fit_74 rfl ?_
    refine j_bipush C dX0_fit_76 (by decide +kernel) ?_
    refine j_icmp_ge C (tgt := 120) dX0_fit_78 (by decide) (by first | omega | (refine ⟨?_, ?_⟩ <;> omega) | exact hw _ _ | exact hwg _ _ | exact nrm_R _) (by first | omega | (refine ⟨?_, ?_⟩ <;> omega) | exact hw _ _ | exact hwg _ _ | exact nrm_R _) (fun c_78 => ?_) (fun c_78 => ?_)
    · refine j_iconst C dX0_fit_120 ?_
      refine j_iretI C dX0_fit_121 (fun _ => by first | exact Or.inl rfl | exact Or.inr rfl | assumption | omega) (fun hw9 => ?_)
      refine ⟨Or.inr rfl, ⟨fun _ h => absurd h hne, fun _ => rfl⟩, ?_⟩
      rw [show i.toNat = 64 by omega]
      unfold fitH
      rw [if_neg hne]
    · refine j_aload_n C dX0_fit_81 rfl ?_
      refine j_getR C fX0_fit_25 rfl rfl dX0_fit_82 ?_
      refine j_iload C dX0_fit_85 rfl ?_
      refine j_iaload C rfl (by decide) dX0_fit_87 (by first | omega | (refine ⟨?_, ?_⟩ <;> omega) | exact hw _ _ | exact hwg _ _ | exact nrm_R _) (by first | omega | (refine ⟨?_, ?_⟩ <;> omega) | exact hw _ _ | exact hwg _ _ | exact nrm_R _) ?_
      refine j_iload C dX0_fit_88 rfl ?_
      refine j_icmp_ne C (tgt := 114) dX0_fit_90 (by decide) (by first | omega | (refine ⟨?_, ?_⟩ <;> omega) | exact hw _ _ | exact hwg _ _ | exact nrm_R _) (by first | omega | (refine ⟨?_, ?_⟩ <;> omega) | exact hw _ _ | exact hwg _ _ | exact nrm_R _) (fun c_90 => ?_) (fun c_90 => ?_)
      · refine j_iinc C dX0_fit_114 rfl ?_
        dsimp only [List.set]
        refine j_goto C (tgt := 74) dX0_fit_117 (by decide) ?_
        have e1 : (row (row g 6 (fitU (g 6) tk.toNat pk.toNat i.toNat)) 7 (fitV (g 6) (g 7) tk.toNat pk.toNat v i.toNat)) 6 i.toNat = _ := congrFun (row_n _ _ (by decide)) _
        rw [e1, row_s, fitU_at] at c_90
        refine j_cast (ih _ (by omega) (i + 1) rfl (by omega) (by omega)) rfl rfl ?_
        rw [show (i + 1).toNat = i.toNat + 1 by omega]
        first
        | (rw [fitU_n c_90, fitV_n c_90]; done)
        | (rw [fitU_y c_90, fitV_y c_90]
           funext k' j
           by_cases a7 : k' = 7
           · subst a7
             simp [row, aset, fitV_at]
           · by_cases a6 : k' = 6
             · subst a6
               simp [row, aset]
             · simp [row, aset, a7, a6])
      · refine j_aload_n C dX0_fit_93 rfl ?_
        refine j_getR C fX0_fit_25 rfl rfl dX0_fit_94 ?_
        refine j_iload C dX0_fit_97 rfl ?_
        refine j_iload C dX0_fit_99 rfl ?_
        refine j_iastore C rfl (by decide) dX0_fit_101 (by first | omega | (refine ⟨?_, ?_⟩ <;> omega) | exact hw _ _ | exact hwg _ _ | exact nrm_R _) (by first | omega | (refine ⟨?_, ?_⟩ <;> omega) | exact hw _ _ | exact hwg _ _ | exact nrm_R _) (by first | omega | (refine ⟨?_, ?_⟩ <;> omega) | exact hw _ _ | exact hwg _ _ | exact nrm_R _) ?_
        refine j_aload_n C dX0_fit_102 rfl ?_
        refine j_getR C fX0_fit_28 rfl rfl dX0_fit_103 ?_
        refine j_iload C dX0_fit_106 rfl ?_
        refine j_dup2 C dX0_fit_108 ?_
        refine j_iaload C rfl (by decide) dX0_fit_109 (by first | omega | (refine ⟨?_, ?_⟩ <;> omega) | exact hw _ _ | exact hwg _ _ | exact nrm_R _) (by first | omega | (refine ⟨?_, ?_⟩ <;> omega) | exact hw _ _ | exact hwg _ _ | exact nrm_R _) ?_
        refine j_iload C dX0_fit_110 rfl ?_
        refine j_iadd C dX0_fit_112 ?_
        refine j_nrm C ?_
        refine j_iastore C rfl (by decide) dX0_fit_113 (by first | omega | (refine ⟨?_, ?_⟩ <;> omega) | exact hw _ _ | exact hwg _ _ | exact nrm_R _) (by first | omega | (refine ⟨?_, ?_⟩ <;> omega) | exact hw _ _ | exact hwg _ _ | exact nrm_R _) (by first | omega | (refine ⟨?_, ?_⟩ <;> omega) | exact hw _ _ | exact hwg _ _ | exact nrm_R _) ?_
        refine j_iinc C dX0_fit_114 rfl ?_
        dsimp only [List.set]
        refine j_goto C (tgt := 74) dX0_fit_117 (by decide) ?_
        have e1 : (row (row g 6 (fitU (g 6) tk.toNat pk.toNat i.toNat)) 7 (fitV (g 6) (g 7) tk.toNat pk.toNat v i.toNat)) 6 i.toNat = _ := congrFun (row_n _ _ (by decide)) _
        rw [e1, row_s, fitU_at] at c_90
        refine j_cast (ih _ (by omega) (i + 1) rfl (by omega) (by omega)) rfl rfl ?_
        rw [show (i + 1).toNat = i.toNat + 1 by omega]
        first
        | (rw [fitU_n c_90, fitV_n c_90]; done)
        | (rw [fitU_y c_90, fitV_y c_90]
           funext k' j
           by_cases a7 : k' = 7
           · subst a7
             simp [row, aset, fitV_at]
           · by_cases a6 : k' = 6
             · subst a6
               simp [row, aset]
             · simp [row, aset, a7, a6])
  refine j_aload_n C dX0_fit_0 rfl ?_
  refine j_getR C fX0_fit_25 rfl rfl dX0_fit_1 ?_
  refine j_iload_n C dX0_fit_4 rfl ?_
  refine j_iaload C rfl (by decide) dX0_fit_5 (by first | omega | (refine ⟨?_, ?_⟩ <;> omega) | exact hw _ _ | exact nrm_R _) (by first | omega | (refine ⟨?_, ?_⟩ <;> omega) | exact hw _ _ | exact nrm_R _) ?_
  refine j_aload_n C dX0_fit_6 rfl ?_
  refine j_getR C fX0_fit_25 rfl rfl dX0_fit_7 ?_
  refine j_iload_n C dX0_fit_10 rfl ?_
  refine j_iaload C rfl (by decide) dX0_fit_11 (by first | omega | (refine ⟨?_, ?_⟩ <;> omega) | exact hw _ _ | exact nrm_R _) (by first | omega | (refine ⟨?_, ?_⟩ <;> omega) | exact hw _ _ | exact nrm_R _) ?_
  refine j_icmp_ne C (tgt := 38) dX0_fit_12 (by decide) (by first | omega | (refine ⟨?_, ?_⟩ <;> omega) | exact hw _ _ | exact nrm_R _) (by first | omega | (refine ⟨?_, ?_⟩ <;> omega) | exact hw _ _ | exact nrm_R _) (fun c_12 => ?_) (fun c_12 => ?_)
  · refine j_aload_n C dX0_fit_38 rfl ?_
    refine j_getR C fX0_fit_28 rfl rfl dX0_fit_39 ?_
    refine j_iload_n C dX0_fit_42 rfl ?_
    refine j_iaload C rfl (by decide) dX0_fit_43 (by first | omega | (refine ⟨?_, ?_⟩ <;> omega) | exact hw _ _ | exact nrm_R _) (by first | omega | (refine ⟨?_, ?_⟩ <;> omega) | exact hw _ _ | exact nrm_R _) ?_
    refine j_iload_n C dX0_fit_44 rfl ?_
    refine j_isub C dX0_fit_45 ?_
    refine j_aload_n C dX0_fit_46 rfl ?_
    refine j_getR C fX0_fit_28 rfl rfl dX0_fit_47 ?_
    refine j_iload_n C dX0_fit_50 rfl ?_
    refine j_iaload C rfl (by decide) dX0_fit_51 (by first | omega | (refine ⟨?_, ?_⟩ <;> omega) | exact hw _ _ | exact nrm_R _) (by first | omega | (refine ⟨?_, ?_⟩ <;> omega) | exact hw _ _ | exact nrm_R _) ?_
    refine j_isub C dX0_fit_52 ?_
    refine j_istore C dX0_fit_53 (Nat.le_of_ble_eq_true rfl) ?_
    dsimp only [List.set]
    refine j_aload_n C dX0_fit_55 rfl ?_
    refine j_getR C fX0_fit_25 rfl rfl dX0_fit_56 ?_
    refine j_iload_n C dX0_fit_59 rfl ?_
    refine j_iaload C rfl (by decide) dX0_fit_60 (by first | omega | (refine ⟨?_, ?_⟩ <;> omega) | exact hw _ _ | exact nrm_R _) (by first | omega | (refine ⟨?_, ?_⟩ <;> omega) | exact hw _ _ | exact nrm_R _) ?_
    refine j_istore C dX0_fit_61 (Nat.le_of_ble_eq_true rfl) ?_
    dsimp only [List.set]
    refine j_aload_n C dX0_fit_63 rfl ?_
    refine j_getR C fX0_fit_25 rfl rfl dX0_fit_64 ?_
    refine j_iload_n C dX0_fit_67 rfl ?_
    refine j_iaload C rfl (by decide) dX0_fit_68 (by first | omega | (refine ⟨?_, ?_⟩ <;> omega) | exact hw _ _ | exact nrm_R _) (by first | omega | (refine ⟨?_, ?_⟩ <;> omega) | exact hw _ _ | exact nrm_R _) ?_
    refine j_istore C dX0_fit_69 (Nat.le_of_ble_eq_true rfl) ?_
    dsimp only [List.set]
    refine j_iconst C dX0_fit_71 ?_
    refine j_istore C dX0_fit_72 (Nat.le_of_ble_eq_true rfl) ?_
    dsimp only [List.set]
    refine j_cast (lp c_12 _ 0 rfl (by omega) (by omega)) rfl rfl ?_
    rw [show (0 : Int).toNat = 0 from rfl, fitU_0, fitV_0, row_id, row_id]
  · refine j_aload_n C dX0_fit_15 rfl ?_
    refine j_getR C fX0_fit_28 rfl rfl dX0_fit_16 ?_
    refine j_iload_n C dX0_fit_19 rfl ?_
    refine j_iaload C rfl (by decide) dX0_fit_20 (by first | omega | (refine ⟨?_, ?_⟩ <;> omega) | exact hw _ _ | exact nrm_R _) (by first | omega | (refine ⟨?_, ?_⟩ <;> omega) | exact hw _ _ | exact nrm_R _) ?_
    refine j_aload_n C dX0_fit_21 rfl ?_
    refine j_getR C fX0_fit_28 rfl rfl dX0_fit_22 ?_
    refine j_iload_n C dX0_fit_25 rfl ?_
    refine j_iaload C rfl (by decide) dX0_fit_26 (by first | omega | (refine ⟨?_, ?_⟩ <;> omega) | exact hw _ _ | exact nrm_R _) (by first | omega | (refine ⟨?_, ?_⟩ <;> omega) | exact hw _ _ | exact nrm_R _) ?_
    refine j_isub C dX0_fit_27 ?_
    refine j_nrm C ?_
    refine j_iload_n C dX0_fit_28 rfl ?_
    refine j_icmp_ne C (tgt := 36) dX0_fit_29 (by decide) (by first | omega | (refine ⟨?_, ?_⟩ <;> omega) | exact hw _ _ | exact nrm_R _) (by first | omega | (refine ⟨?_, ?_⟩ <;> omega) | exact hw _ _ | exact nrm_R _) (fun c_29 => ?_) (fun c_29 => ?_)
    · refine j_iconst C dX0_fit_36 ?_
      refine j_iretI C dX0_fit_37 (fun _ => by first | exact Or.inl rfl | exact Or.inr rfl | assumption | omega) (fun hw9 => ?_)
      refine ⟨by omega, ?_, ?_⟩
      · first | exact ⟨fun _ _ => c_29, fun _ => rfl⟩ | exact ⟨fun h => absurd h (by decide), fun h => absurd (h c_12) c_29⟩
      · unfold fitH
        rw [if_pos c_12, fitU_same c_12, row_id, row_id]
    · refine j_iconst C dX0_fit_32 ?_
      refine j_goto C (tgt := 37) dX0_fit_33 (by decide) ?_
      refine j_iretI C dX0_fit_37 (fun _ => by first | exact Or.inl rfl | exact Or.inr rfl | assumption | omega) (fun hw9 => ?_)
      refine ⟨by omega, ?_, ?_⟩
      · first | exact ⟨fun _ _ => c_29, fun _ => rfl⟩ | exact ⟨fun h => absurd h (by decide), fun h => absurd (h c_12) c_29⟩
      · unfold fitH
        rw [if_pos c_12, fitU_same c_12, row_id, row_id]
/-- what a reading does to the eye: x says whether it fits -/
def addG (g : AG) (t p v x : Int) : AG :=
  aset (aset (aset (aset (aset (aset (row (row g 6 (fitU (g 6) (24 + t).toNat p.toNat 64)) 7 (fitH (g 6) (g 7) (24 + t).toNat p.toNat v)) 2 (g 1 4).toNat t) 3 (g 1 4).toNat p) 4 (g 1 4).toNat v) 5 (g 1 4).toNat x) 1 4 (g 1 4 + 1)) 1 5 (g 1 5 + x)
def fitP (G H : Nat → Int) (a b : Nat) (v : Int) : Prop := G a = G b → nrm (H a - H b) = v
set_option maxHeartbeats 4000000 in
set_option maxRecDepth 100000 in
theorem ct_X0_add {t p v : Int} {g : AG} (h : 0 ≤ t ∧ t ≤ 39 ∧ 0 ≤ p ∧ p < 24 ∧ aR v ∧ 0 ≤ g 1 4 ∧ g 1 4 < 100 ∧ 0 ≤ g 1 5 ∧ g 1 5 ≤ 100) : MetI yX0_add wsX0_add rmX0_add ShW [.inr 1, .inl t, .inl p, .inl v] g (fun x g' => (x = 0 ∨ x = 1) ∧ (x = 1 ↔ fitP (g 6) (g 7) (24 + t).toNat p.toNat v) ∧ g' = addG g t p v x) := by
  refine metI_of (cc := cX0_add) (nL := 5) true (by decide +kernel) rfl (Nat.le_of_ble_eq_true rfl) (fun q J C => ?_)
  show J q ShW 0 0 0 [some (.inr 1), some (.inl t), some (.inl p), some (.inl v), none] [] g
  refine j_wf C (fun hw => ?_)
  obtain ⟨h1, h2, h3, h4, h5, h6, h7, h8, h9⟩ := h
  refine j_aload_n C dX0_add_0 rfl ?_
  refine j_iload_n C dX0_add_1 rfl ?_
  refine j_callSi1 C vX0_add_41 rfl (Nat.le_of_ble_eq_true rfl) ⟨Nat.zero_le _, Nat.zero_le _⟩ dX0_add_2 (ct_X0_knotOfTime ) (fun x_2 g_2 hk_2 => ?_)
  obtain ⟨e_2, rfl⟩ := hk_2
  have e_2 := e_2.symm
  subst e_2
  refine j_iload_n C dX0_add_5 rfl ?_
  refine j_iload_n C dX0_add_6 rfl ?_
  refine j_callVi3 C vX0_add_45 rfl rfl (Nat.le_of_ble_eq_true rfl) ⟨Nat.zero_le _, Nat.zero_le _⟩ dX0_add_7 (ct_X0_fit ⟨by omega, by omega, by omega, by omega, h5⟩) (fun x_7 g_7 hk_7 => ?_)
  obtain ⟨hb_7, hi_7, rfl⟩ := hk_7
  refine j_istore C dX0_add_10 (Nat.le_of_ble_eq_true rfl) ?_
  dsimp only [List.set]
  refine j_aload_n C dX0_add_12 rfl ?_
  refine j_getR C fX0_add_9 rfl rfl dX0_add_13 ?_
  refine j_aload_n C dX0_add_16 rfl ?_
  refine j_getI C fX0_add_34 rfl rfl dX0_add_17 ?_
  simp only [row_n _ _ (show (1 : Nat) ≠ 7 by decide), row_n _ _ (show (1 : Nat) ≠ 6 by decide), aset_kn _ _ _ (show (1 : Nat) ≠ 2 by decide), aset_kn _ _ _ (show (1 : Nat) ≠ 3 by decide), aset_kn _ _ _ (show (1 : Nat) ≠ 4 by decide), aset_kn _ _ _ (show (1 : Nat) ≠ 5 by decide)]
  refine j_iload_n C dX0_add_20 rfl ?_
  refine j_iastore C rfl (by decide) dX0_add_21 (by first | omega | (refine ⟨?_, ?_⟩ <;> omega) | exact hw _ _ | exact nrm_R _ | (simp [row, aset]; omega) | (simp only [row_n _ _ (show (1 : Nat) ≠ 7 by decide), row_n _ _ (show (1 : Nat) ≠ 6 by decide), aset_kn _ _ _ (show (1 : Nat) ≠ 2 by decide), aset_kn _ _ _ (show (1 : Nat) ≠ 3 by decide), aset_kn _ _ _ (show (1 : Nat) ≠ 4 by decide), aset_kn _ _ _ (show (1 : Nat) ≠ 5 by decide)]; first | omega | (refine ⟨?_, ?_⟩ <;> omega))) (by first | omega | (refine ⟨?_, ?_⟩ <;> omega) | exact hw _ _ | exact nrm_R _ | (simp [row, aset]; omega) | (simp only [row_n _ _ (show (1 : Nat) ≠ 7 by decide), row_n _ _ (show (1 : Nat) ≠ 6 by decide), aset_kn _ _ _ (show (1 : Nat) ≠ 2 by decide), aset_kn _ _ _ (show (1 : Nat) ≠ 3 by decide), aset_kn _ _ _ (show (1 : Nat) ≠ 4 by decide), aset_kn _ _ _ (show (1 : Nat) ≠ 5 by decide)]; first | omega | (refine ⟨?_, ?_⟩ <;> omega))) (by omega) ?_
  refine j_aload_n C dX0_add_22 rfl ?_
  refine j_getR C fX0_add_15 rfl rfl dX0_add_23 ?_
  refine j_aload_n C dX0_add_26 rfl ?_
  refine j_getI C fX0_add_34 rfl rfl dX0_add_27 ?_
  simp only [row_n _ _ (show (1 : Nat) ≠ 7 by decide), row_n _ _ (show (1 : Nat) ≠ 6 by decide), aset_kn _ _ _ (show (1 : Nat) ≠ 2 by decide), aset_kn _ _ _ (show (1 : Nat) ≠ 3 by decide), aset_kn _ _ _ (show (1 : Nat) ≠ 4 by decide), aset_kn _ _ _ (show (1 : Nat) ≠ 5 by decide)]
  refine j_iload_n C dX0_add_30 rfl ?_
  refine j_iastore C rfl (by decide) dX0_add_31 (by first | omega | (refine ⟨?_, ?_⟩ <;> omega) | exact hw _ _ | exact nrm_R _ | (simp [row, aset]; omega) | (simp only [row_n _ _ (show (1 : Nat) ≠ 7 by decide), row_n _ _ (show (1 : Nat) ≠ 6 by decide), aset_kn _ _ _ (show (1 : Nat) ≠ 2 by decide), aset_kn _ _ _ (show (1 : Nat) ≠ 3 by decide), aset_kn _ _ _ (show (1 : Nat) ≠ 4 by decide), aset_kn _ _ _ (show (1 : Nat) ≠ 5 by decide)]; first | omega | (refine ⟨?_, ?_⟩ <;> omega))) (by first | omega | (refine ⟨?_, ?_⟩ <;> omega) | exact hw _ _ | exact nrm_R _ | (simp [row, aset]; omega) | (simp only [row_n _ _ (show (1 : Nat) ≠ 7 by decide), row_n _ _ (show (1 : Nat) ≠ 6 by decide), aset_kn _ _ _ (show (1 : Nat) ≠ 2 by decide), aset_kn _ _ _ (show (1 : Nat) ≠ 3 by decide), aset_kn _ _ _ (show (1 : Nat) ≠ 4 by decide), aset_kn _ _ _ (show (1 : Nat) ≠ 5 by decide)]; first | omega | (refine ⟨?_, ?_⟩ <;> omega))) (by omega) ?_
  refine j_aload_n C dX0_add_32 rfl ?_
  refine j_getR C fX0_add_18 rfl rfl dX0_add_33 ?_
  refine j_aload_n C dX0_add_36 rfl ?_
  refine j_getI C fX0_add_34 rfl rfl dX0_add_37 ?_
  simp only [row_n _ _ (show (1 : Nat) ≠ 7 by decide), row_n _ _ (show (1 : Nat) ≠ 6 by decide), aset_kn _ _ _ (show (1 : Nat) ≠ 2 by decide), aset_kn _ _ _ (show (1 : Nat) ≠ 3 by decide), aset_kn _ _ _ (show (1 : Nat) ≠ 4 by decide), aset_kn _ _ _ (show (1 : Nat) ≠ 5 by decide)]
  refine j_iload_n C dX0_add_40 rfl ?_
  refine j_iastore C rfl (by decide) dX0_add_41 (by first | omega | (refine ⟨?_, ?_⟩ <;> omega) | exact hw _ _ | exact nrm_R _ | (simp [row, aset]; omega) | (simp only [row_n _ _ (show (1 : Nat) ≠ 7 by decide), row_n _ _ (show (1 : Nat) ≠ 6 by decide), aset_kn _ _ _ (show (1 : Nat) ≠ 2 by decide), aset_kn _ _ _ (show (1 : Nat) ≠ 3 by decide), aset_kn _ _ _ (show (1 : Nat) ≠ 4 by decide), aset_kn _ _ _ (show (1 : Nat) ≠ 5 by decide)]; first | omega | (refine ⟨?_, ?_⟩ <;> omega))) (by first | omega | (refine ⟨?_, ?_⟩ <;> omega) | exact hw _ _ | exact nrm_R _ | (simp [row, aset]; omega) | (simp only [row_n _ _ (show (1 : Nat) ≠ 7 by decide), row_n _ _ (show (1 : Nat) ≠ 6 by decide), aset_kn _ _ _ (show (1 : Nat) ≠ 2 by decide), aset_kn _ _ _ (show (1 : Nat) ≠ 3 by decide), aset_kn _ _ _ (show (1 : Nat) ≠ 4 by decide), aset_kn _ _ _ (show (1 : Nat) ≠ 5 by decide)]; first | omega | (refine ⟨?_, ?_⟩ <;> omega))) (by exact h5) ?_
  refine j_aload_n C dX0_add_42 rfl ?_
  refine j_getR C fX0_add_21 rfl rfl dX0_add_43 ?_
  refine j_aload_n C dX0_add_46 rfl ?_
  refine j_getI C fX0_add_34 rfl rfl dX0_add_47 ?_
  simp only [row_n _ _ (show (1 : Nat) ≠ 7 by decide), row_n _ _ (show (1 : Nat) ≠ 6 by decide), aset_kn _ _ _ (show (1 : Nat) ≠ 2 by decide), aset_kn _ _ _ (show (1 : Nat) ≠ 3 by decide), aset_kn _ _ _ (show (1 : Nat) ≠ 4 by decide), aset_kn _ _ _ (show (1 : Nat) ≠ 5 by decide)]
  refine j_iload C dX0_add_50 rfl ?_
  refine j_bastore C rfl (by decide) dX0_add_52 (by first | omega | (refine ⟨?_, ?_⟩ <;> omega) | exact hw _ _ | exact nrm_R _ | (simp [row, aset]; omega) | (simp only [row_n _ _ (show (1 : Nat) ≠ 7 by decide), row_n _ _ (show (1 : Nat) ≠ 6 by decide), aset_kn _ _ _ (show (1 : Nat) ≠ 2 by decide), aset_kn _ _ _ (show (1 : Nat) ≠ 3 by decide), aset_kn _ _ _ (show (1 : Nat) ≠ 4 by decide), aset_kn _ _ _ (show (1 : Nat) ≠ 5 by decide)]; first | omega | (refine ⟨?_, ?_⟩ <;> omega))) (by first | omega | (refine ⟨?_, ?_⟩ <;> omega) | exact hw _ _ | exact nrm_R _ | (simp [row, aset]; omega) | (simp only [row_n _ _ (show (1 : Nat) ≠ 7 by decide), row_n _ _ (show (1 : Nat) ≠ 6 by decide), aset_kn _ _ _ (show (1 : Nat) ≠ 2 by decide), aset_kn _ _ _ (show (1 : Nat) ≠ 3 by decide), aset_kn _ _ _ (show (1 : Nat) ≠ 4 by decide), aset_kn _ _ _ (show (1 : Nat) ≠ 5 by decide)]; first | omega | (refine ⟨?_, ?_⟩ <;> omega))) (by exact hb_7) ?_
  refine j_aload_n C dX0_add_53 rfl ?_
  refine j_dup C dX0_add_54 ?_
  refine j_getI C fX0_add_34 rfl rfl dX0_add_55 ?_
  simp only [row_n _ _ (show (1 : Nat) ≠ 7 by decide), row_n _ _ (show (1 : Nat) ≠ 6 by decide), aset_kn _ _ _ (show (1 : Nat) ≠ 2 by decide), aset_kn _ _ _ (show (1 : Nat) ≠ 3 by decide), aset_kn _ _ _ (show (1 : Nat) ≠ 4 by decide), aset_kn _ _ _ (show (1 : Nat) ≠ 5 by decide)]
  refine j_iconst C dX0_add_58 ?_
  refine j_iadd C dX0_add_59 ?_
  refine j_putI C pX0_add_34 rfl rfl (by first | omega | (refine ⟨?_, ?_⟩ <;> omega) | exact hw _ _ | exact nrm_R _ | (simp [row, aset]; omega) | (simp only [row_n _ _ (show (1 : Nat) ≠ 7 by decide), row_n _ _ (show (1 : Nat) ≠ 6 by decide), aset_kn _ _ _ (show (1 : Nat) ≠ 2 by decide), aset_kn _ _ _ (show (1 : Nat) ≠ 3 by decide), aset_kn _ _ _ (show (1 : Nat) ≠ 4 by decide), aset_kn _ _ _ (show (1 : Nat) ≠ 5 by decide)]; first | omega | (refine ⟨?_, ?_⟩ <;> omega))) (by intro h; cases h) dX0_add_60 ?_
  refine j_iload C dX0_add_63 rfl ?_
  refine j_if_eq C (tgt := 78) dX0_add_65 (by decide) (by omega) (fun c_65 => ?_) (fun c_65 => ?_)
  · refine j_iload C dX0_add_78 rfl ?_
    refine j_iretI C dX0_add_80 (fun _ => by first | exact Or.inl rfl | exact Or.inr rfl | assumption | omega) (fun hw9 => ?_)
    refine ⟨hb_7, hi_7, ?_⟩
    unfold addG
    first
    | (have e1 : x_7 = 0 := c_65
       subst e1
       rw [Int.add_zero]
       symm
       have e2 := aset_id (aset (aset (aset (aset (aset (row (row g 6 (fitU (g 6) (24 + t).toNat p.toNat 64)) 7 (fitH (g 6) (g 7) (24 + t).toNat p.toNat v)) 2 (g 1 4).toNat t) 3 (g 1 4).toNat p) 4 (g 1 4).toNat v) 5 (g 1 4).toNat 0) 1 4 (g 1 4 + 1)) 1 5
       have e3 : aset (aset (aset (aset (aset (row (row g 6 (fitU (g 6) (24 + t).toNat p.toNat 64)) 7 (fitH (g 6) (g 7) (24 + t).toNat p.toNat v)) 2 (g 1 4).toNat t) 3 (g 1 4).toNat p) 4 (g 1 4).toNat v) 5 (g 1 4).toNat 0) 1 4 (g 1 4 + 1) 1 5 = g 1 5 := by simp [row, aset]
       rw [e3] at e2
       exact e2)
    | (have e1 : x_7 = 1 := by omega
       subst e1
       congr 1
       all_goals simp [row, aset])
  · refine j_aload_n C dX0_add_68 rfl ?_
    refine j_dup C dX0_add_69 ?_
    refine j_getI C fX0_add_38 rfl rfl dX0_add_70 ?_
    refine j_iconst C dX0_add_73 ?_
    refine j_iadd C dX0_add_74 ?_
    refine j_putI C pX0_add_38 rfl rfl (by first | omega | (refine ⟨?_, ?_⟩ <;> omega) | exact hw _ _ | exact nrm_R _ | (simp [row, aset]; omega) | (simp only [row_n _ _ (show (1 : Nat) ≠ 7 by decide), row_n _ _ (show (1 : Nat) ≠ 6 by decide), aset_kn _ _ _ (show (1 : Nat) ≠ 2 by decide), aset_kn _ _ _ (show (1 : Nat) ≠ 3 by decide), aset_kn _ _ _ (show (1 : Nat) ≠ 4 by decide), aset_kn _ _ _ (show (1 : Nat) ≠ 5 by decide)]; first | omega | (refine ⟨?_, ?_⟩ <;> omega))) (by intro h; cases h) dX0_add_75 ?_
    refine j_iload C dX0_add_78 rfl ?_
    refine j_iretI C dX0_add_80 (fun _ => by first | exact Or.inl rfl | exact Or.inr rfl | assumption | omega) (fun hw9 => ?_)
    refine ⟨hb_7, hi_7, ?_⟩
    unfold addG
    first
    | (have e1 : x_7 = 0 := c_65
       subst e1
       rw [Int.add_zero]
       symm
       have e2 := aset_id (aset (aset (aset (aset (aset (row (row g 6 (fitU (g 6) (24 + t).toNat p.toNat 64)) 7 (fitH (g 6) (g 7) (24 + t).toNat p.toNat v)) 2 (g 1 4).toNat t) 3 (g 1 4).toNat p) 4 (g 1 4).toNat v) 5 (g 1 4).toNat 0) 1 4 (g 1 4 + 1)) 1 5
       have e3 : aset (aset (aset (aset (aset (row (row g 6 (fitU (g 6) (24 + t).toNat p.toNat 64)) 7 (fitH (g 6) (g 7) (24 + t).toNat p.toNat v)) 2 (g 1 4).toNat t) 3 (g 1 4).toNat p) 4 (g 1 4).toNat v) 5 (g 1 4).toNat 0) 1 4 (g 1 4 + 1) 1 5 = g 1 5 := by simp [row, aset]
       rw [e3] at e2
       exact e2)
    | (have e1 : x_7 = 1 := by omega
       subst e1
       congr 1
       all_goals simp [row, aset])
end
section
/-! ===== pure words: the lips ===== -/
theorem mulb {a b A B : Int} (h1 : -A ≤ a) (h2 : a ≤ A) (h3 : -B ≤ b) (h4 : b ≤ B) : -(A * B) ≤ a * b ∧ a * b ≤ A * B := by
  have p1 : 0 ≤ (A - a) * (B + b) := Int.mul_nonneg (by omega) (by omega)
  have p2 : 0 ≤ (A + a) * (B - b) := Int.mul_nonneg (by omega) (by omega)
  have p3 : 0 ≤ (A - a) * (B - b) := Int.mul_nonneg (by omega) (by omega)
  have p4 : 0 ≤ (A + a) * (B + b) := Int.mul_nonneg (by omega) (by omega)
  simp only [Int.sub_mul, Int.add_mul, Int.mul_add, Int.mul_sub] at p1 p2 p3 p4
  omega
def lipI (n nx bd mn sd : Int) (B S : Nat → Int) : Prop := (2 ≤ n ∧ n ≤ 24) ∧ (0 ≤ nx ∧ nx ≤ 20) ∧ (0 ≤ bd ∧ bd ≤ 40) ∧ (1 ≤ mn ∧ mn ≤ 20) ∧ (-5 ≤ sd ∧ sd ≤ 5) ∧ (∀ j, -2000 ≤ B j ∧ B j ≤ 2000) ∧ (∀ j, -10 ≤ S j ∧ S j ≤ 10)
def LX (g : AG) : Prop := lipI (g 8 2) (g 8 3) (g 8 4) (g 8 5) (g 8 6) (g 9) (g 10)
def LM (g : AG) : Prop := lipI (g 21 0) (g 21 10) (g 21 11) (g 21 12) (g 21 13) (g 28) (g 29)
/-- ERROR of a PLACE -/
def eP (B S : Nat → Int) (mn sd n p : Int) : Int := B p.toNat + mn * S p.toNat + (if 0 < p then sd * S (p - 1).toNat else 0) + (if p < n - 1 then sd * S (p + 1).toNat else 0)
theorem eP_b {n nx bd mn sd : Int} {B S : Nat → Int} (h : lipI n nx bd mn sd B S) (p : Int) : -2300 ≤ eP B S mn sd n p ∧ eP B S mn sd n p ≤ 2300 := by
  obtain ⟨-, -, -, ⟨a1, a2⟩, ⟨b1, b2⟩, hB, hS⟩ := h
  have h1 := hB p.toNat
  have m1 := mulb (a := mn) (b := S p.toNat) (A := 20) (B := 10) (by omega) a2 (hS _).1 (hS _).2
  have m2 := mulb (a := sd) (b := S (p - 1).toNat) (A := 5) (B := 10) b1 b2 (hS _).1 (hS _).2
  have m3 := mulb (a := sd) (b := S (p + 1).toNat) (A := 5) (B := 10) b1 b2 (hS _).1 (hS _).2
  unfold eP
  split <;> split <;> omega
def tog (s a b : Int) : Int := if s = 0 then max a b else a + b
def unv (s : Int) (f : Nat → Int) : Nat → Int
  | 0 => 0
  | n + 1 => tog s (unv s f n) (f n)
theorem tog_b {s a b A B : Int} (h1 : 0 ≤ a) (h2 : a ≤ A) (h3 : 0 ≤ b) (h4 : b ≤ B) : 0 ≤ tog s a b ∧ tog s a b ≤ A + B := by
  unfold tog
  split <;> omega
theorem unv_b {s : Int} {f : Nat → Int} (h : ∀ j, 0 ≤ f j ∧ f j ≤ 2300) : ∀ n : Nat, 0 ≤ unv s f n ∧ unv s f n ≤ 2300 * n
  | 0 => by simp [unv]
  | n + 1 => by
    have ih := unv_b (s := s) h n
    have h2 := tog_b (s := s) ih.1 ih.2 (h n).1 (h n).2
    unfold unv
    omega
/-- SETTINGS are by LAWS -/
def lawf (S : Nat → Int) (n : Nat) (nx bd : Int) : Prop := ∀ p : Nat, p < n → (1 ≤ p → ((S p - S (p - 1)).natAbs : Int) ≤ nx) ∧ (2 ≤ p → ((2 * S (p - 1) - S (p - 2) - S p).natAbs : Int) ≤ bd)
def szX (g : AG) (p : Int) : Int := ((eP (g 9) (g 10) (g 8 5) (g 8 6) (g 8 2) p).natAbs : Int)
def szM (g : AG) (p : Int) : Int := ((eP (g 28) (g 29) (g 21 12) (g 21 13) (g 21 0) p).natAbs : Int)
theorem szX_b {g : AG} (h : LX g) (p : Int) : 0 ≤ szX g p ∧ szX g p ≤ 2300 := by
  have := eP_b h p
  unfold szX
  omega
theorem szM_b {g : AG} (h : LM g) (p : Int) : 0 ≤ szM g p ∧ szM g p ≤ 2300 := by
  have := eP_b h p
  unfold szM
  omega
theorem aset_at (g : AG) (k j : Nat) (v : Int) : aset g k j v k = fun j' => if j' = j then v else g k j' := by rw [aset_row, row_s]
theorem LX_set {g : AG} (h : LX g) {j : Nat} {x : Int} (h1 : -10 ≤ x) (h2 : x ≤ 10) : LX (aset g 10 j x) := by
  obtain ⟨a1, a2, a3, a4, a5, a6, a7⟩ := h
  refine ⟨a1, a2, a3, a4, a5, a6, fun j' => ?_⟩
  rw [aset_at]
  dsimp only
  split
  · exact ⟨h1, h2⟩
  · exact a7 j'
theorem LM_set {g : AG} (h : LM g) {j : Nat} {x : Int} (h1 : -10 ≤ x) (h2 : x ≤ 10) : LM (aset g 29 j x) := by
  obtain ⟨a1, a2, a3, a4, a5, a6, a7⟩ := h
  refine ⟨a1, a2, a3, a4, a5, a6, fun j' => ?_⟩
  rw [aset_at]
  dsimp only
  split
  · exact ⟨h1, h2⟩
  · exact a7 j'
theorem aset_back {g : AG} {k j : Nat} {v w : Int} (h : g k j = w) : aset (aset g k j v) k j w = g := by
  funext k' j'
  unfold aset
  split
  · rename_i h2; rw [h2.1, h2.2, h]
  · rfl
end
section
set_option maxHeartbeats 4000000 in
set_option maxRecDepth 100000 in
theorem ct_X2_places {g : AG} : MetI yX2_places wsX2_places rmX2_places ShW [.inr 8] g (fun x g' => g' = g ∧ x = g 8 2) := by
  refine metI_of (cc := cX2_places) (nL := 1) false (by decide +kernel) rfl (Nat.le_of_ble_eq_true rfl) (fun q J C => ?_)
  show J q ShW 0 0 0 [some (.inr 8)] [] g
  refine j_wf C (fun hw => ?_)
  refine j_aload_n C dX2_places_0 rfl ?_
  refine j_getI C fX2_places_18 rfl rfl dX2_places_1 ?_
  refine j_iretI C dX2_places_4 (by intro h; cases h) (fun hw9 => ?_)
  exact ⟨rfl, rfl⟩
set_option maxHeartbeats 4000000 in
set_option maxRecDepth 100000 in
theorem ct_X2_nextLaw {g : AG} : MetI yX2_nextLaw wsX2_nextLaw rmX2_nextLaw ShW [.inr 8] g (fun x g' => g' = g ∧ x = g 8 3) := by
  refine metI_of (cc := cX2_nextLaw) (nL := 1) false (by decide +kernel) rfl (Nat.le_of_ble_eq_true rfl) (fun q J C => ?_)
  show J q ShW 0 0 0 [some (.inr 8)] [] g
  refine j_wf C (fun hw => ?_)
  refine j_aload_n C dX2_nextLaw_0 rfl ?_
  refine j_getI C fX2_nextLaw_22 rfl rfl dX2_nextLaw_1 ?_
  refine j_iretI C dX2_nextLaw_4 (by intro h; cases h) (fun hw9 => ?_)
  exact ⟨rfl, rfl⟩
set_option maxHeartbeats 4000000 in
set_option maxRecDepth 100000 in
theorem ct_X2_bendLaw {g : AG} : MetI yX2_bendLaw wsX2_bendLaw rmX2_bendLaw ShW [.inr 8] g (fun x g' => g' = g ∧ x = g 8 4) := by
  refine metI_of (cc := cX2_bendLaw) (nL := 1) false (by decide +kernel) rfl (Nat.le_of_ble_eq_true rfl) (fun q J C => ?_)
  show J q ShW 0 0 0 [some (.inr 8)] [] g
  refine j_wf C (fun hw => ?_)
  refine j_aload_n C dX2_bendLaw_0 rfl ?_
  refine j_getI C fX2_bendLaw_25 rfl rfl dX2_bendLaw_1 ?_
  refine j_iretI C dX2_bendLaw_4 (by intro h; cases h) (fun hw9 => ?_)
  exact ⟨rfl, rfl⟩
set_option maxHeartbeats 4000000 in
set_option maxRecDepth 100000 in
theorem ct_X2_mainSpread {g : AG} : MetI yX2_mainSpread wsX2_mainSpread rmX2_mainSpread ShW [.inr 8] g (fun x g' => g' = g ∧ x = g 8 5) := by
  refine metI_of (cc := cX2_mainSpread) (nL := 1) false (by decide +kernel) rfl (Nat.le_of_ble_eq_true rfl) (fun q J C => ?_)
  show J q ShW 0 0 0 [some (.inr 8)] [] g
  refine j_wf C (fun hw => ?_)
  refine j_aload_n C dX2_mainSpread_0 rfl ?_
  refine j_getI C fX2_mainSpread_28 rfl rfl dX2_mainSpread_1 ?_
  refine j_iretI C dX2_mainSpread_4 (by intro h; cases h) (fun hw9 => ?_)
  exact ⟨rfl, rfl⟩
set_option maxHeartbeats 4000000 in
set_option maxRecDepth 100000 in
theorem ct_X2_sideSpread {g : AG} : MetI yX2_sideSpread wsX2_sideSpread rmX2_sideSpread ShW [.inr 8] g (fun x g' => g' = g ∧ x = g 8 6) := by
  refine metI_of (cc := cX2_sideSpread) (nL := 1) false (by decide +kernel) rfl (Nat.le_of_ble_eq_true rfl) (fun q J C => ?_)
  show J q ShW 0 0 0 [some (.inr 8)] [] g
  refine j_wf C (fun hw => ?_)
  refine j_aload_n C dX2_sideSpread_0 rfl ?_
  refine j_getI C fX2_sideSpread_40 rfl rfl dX2_sideSpread_1 ?_
  refine j_iretI C dX2_sideSpread_4 (by intro h; cases h) (fun hw9 => ?_)
  exact ⟨rfl, rfl⟩
set_option maxHeartbeats 4000000 in
set_option maxRecDepth 100000 in
theorem ct_X2_baseOf {p : Int} {g : AG} (h : 0 ≤ p ∧ p < 24) : MetI yX2_baseOf wsX2_baseOf rmX2_baseOf ShW [.inr 8, .inl p] g (fun x g' => g' = g ∧ x = g 9 p.toNat) := by
  refine metI_of (cc := cX2_baseOf) (nL := 2) false (by decide +kernel) rfl (Nat.le_of_ble_eq_true rfl) (fun q J C => ?_)
  show J q ShW 0 0 0 [some (.inr 8), some (.inl p)] [] g
  refine j_wf C (fun hw => ?_)
  refine j_aload_n C dX2_baseOf_0 rfl ?_
  refine j_getR C fX2_baseOf_9 rfl rfl dX2_baseOf_1 ?_
  refine j_iload_n C dX2_baseOf_4 rfl ?_
  refine j_iaload C rfl (by decide) dX2_baseOf_5 (by first | omega | (refine ⟨?_, ?_⟩ <;> omega) | exact hw _ _ | exact nrm_R _) (by first | omega | (refine ⟨?_, ?_⟩ <;> omega) | exact hw _ _ | exact nrm_R _) ?_
  refine j_iretI C dX2_baseOf_6 (by intro h; cases h) (fun hw9 => ?_)
  exact ⟨rfl, rfl⟩
set_option maxHeartbeats 4000000 in
set_option maxRecDepth 100000 in
theorem ct_X2_settingOf {p : Int} {g : AG} (h : 0 ≤ p ∧ p < 24) : MetI yX2_settingOf wsX2_settingOf rmX2_settingOf ShW [.inr 8, .inl p] g (fun x g' => g' = g ∧ x = g 10 p.toNat) := by
  refine metI_of (cc := cX2_settingOf) (nL := 2) false (by decide +kernel) rfl (Nat.le_of_ble_eq_true rfl) (fun q J C => ?_)
  show J q ShW 0 0 0 [some (.inr 8), some (.inl p)] [] g
  refine j_wf C (fun hw => ?_)
  refine j_aload_n C dX2_settingOf_0 rfl ?_
  refine j_getR C fX2_settingOf_15 rfl rfl dX2_settingOf_1 ?_
  refine j_iload_n C dX2_settingOf_4 rfl ?_
  refine j_iaload C rfl (by decide) dX2_settingOf_5 (by first | omega | (refine ⟨?_, ?_⟩ <;> omega) | exact hw _ _ | exact nrm_R _) (by first | omega | (refine ⟨?_, ?_⟩ <;> omega) | exact hw _ _ | exact nrm_R _) ?_
  refine j_iretI C dX2_settingOf_6 (by intro h; cases h) (fun hw9 => ?_)
  exact ⟨rfl, rfl⟩
set_option maxHeartbeats 4000000 in
set_option maxRecDepth 100000 in
theorem ct_X2_putLaws {a b : Int} {g : AG} (h : aR a ∧ aR b) : MetV yX2_putLaws wsX2_putLaws rmX2_putLaws ShW [.inr 8, .inl a, .inl b] g (fun g' => g' = aset (aset g 8 3 a) 8 4 b) := by
  refine metV_of (cc := cX2_putLaws) (nL := 3) (by decide +kernel) rfl (Nat.le_of_ble_eq_true rfl) (fun q J C => ?_)
  show J q ShW 0 0 0 [some (.inr 8), some (.inl a), some (.inl b)] [] g
  refine j_wf C (fun hw => ?_)
  refine j_aload_n C dX2_putLaws_0 rfl ?_
  refine j_iload_n C dX2_putLaws_1 rfl ?_
  refine j_putI C pX2_putLaws_22 rfl rfl (by first | exact h.1 | exact h.2) (by intro h; cases h) dX2_putLaws_2 ?_
  refine j_aload_n C dX2_putLaws_5 rfl ?_
  refine j_iload_n C dX2_putLaws_6 rfl ?_
  refine j_putI C pX2_putLaws_25 rfl rfl (by first | exact h.1 | exact h.2) (by intro h; cases h) dX2_putLaws_7 ?_
  refine j_vretV C dX2_putLaws_10 (fun hw9 => ?_)
  rfl
set_option maxHeartbeats 4000000 in
set_option maxRecDepth 100000 in
theorem ct_X2_putSpread {a b : Int} {g : AG} (h : aR a ∧ aR b) : MetV yX2_putSpread wsX2_putSpread rmX2_putSpread ShW [.inr 8, .inl a, .inl b] g (fun g' => g' = aset (aset g 8 5 a) 8 6 b) := by
  refine metV_of (cc := cX2_putSpread) (nL := 3) (by decide +kernel) rfl (Nat.le_of_ble_eq_true rfl) (fun q J C => ?_)
  show J q ShW 0 0 0 [some (.inr 8), some (.inl a), some (.inl b)] [] g
  refine j_wf C (fun hw => ?_)
  refine j_aload_n C dX2_putSpread_0 rfl ?_
  refine j_iload_n C dX2_putSpread_1 rfl ?_
  refine j_putI C pX2_putSpread_28 rfl rfl (by first | exact h.1 | exact h.2) (by intro h; cases h) dX2_putSpread_2 ?_
  refine j_aload_n C dX2_putSpread_5 rfl ?_
  refine j_iload_n C dX2_putSpread_6 rfl ?_
  refine j_putI C pX2_putSpread_40 rfl rfl (by first | exact h.1 | exact h.2) (by intro h; cases h) dX2_putSpread_7 ?_
  refine j_vretV C dX2_putSpread_10 (fun hw9 => ?_)
  rfl
set_option maxHeartbeats 4000000 in
set_option maxRecDepth 100000 in
theorem ct_X2_putBase {p v : Int} {g : AG} (h : 0 ≤ p ∧ p < 24 ∧ aR v) : MetV yX2_putBase wsX2_putBase rmX2_putBase ShW [.inr 8, .inl p, .inl v] g (fun g' => g' = aset g 9 p.toNat v) := by
  refine metV_of (cc := cX2_putBase) (nL := 3) (by decide +kernel) rfl (Nat.le_of_ble_eq_true rfl) (fun q J C => ?_)
  show J q ShW 0 0 0 [some (.inr 8), some (.inl p), some (.inl v)] [] g
  refine j_wf C (fun hw => ?_)
  refine j_aload_n C dX2_putBase_0 rfl ?_
  refine j_getR C fX2_putBase_9 rfl rfl dX2_putBase_1 ?_
  refine j_iload_n C dX2_putBase_4 rfl ?_
  refine j_iload_n C dX2_putBase_5 rfl ?_
  refine j_iastore C rfl (by decide) dX2_putBase_6 (by first | omega | exact h.2.2) (by first | omega | exact h.2.2) (by first | omega | exact h.2.2) ?_
  refine j_vretV C dX2_putBase_7 (fun hw9 => ?_)
  rfl
def lipF (g : AG) (n : Int) : AG := row (row (aset g 8 2 n) 9 (fillU (g 9) 24 (fun _ => 0))) 10 (fillU (g 10) 24 (fun _ => 0))
set_option maxHeartbeats 4000000 in
set_option maxRecDepth 100000 in
theorem ct_X2_renew {n : Int} {g : AG} (h : aR n) : MetV yX2_renew wsX2_renew rmX2_renew ShW [.inr 8, .inl n] g (fun g' => g' = lipF g n) := by
  refine metV_of (cc := cX2_renew) (nL := 2) (by decide +kernel) rfl (Nat.le_of_ble_eq_true rfl) (fun q J C => ?_)
  show J q ShW 0 0 0 [some (.inr 8), some (.inl n)] [] g
  refine j_wf C (fun hw => ?_)
  refine j_aload_n C dX2_renew_0 rfl ?_
  refine j_iload_n C dX2_renew_1 rfl ?_
  refine j_putI C pX2_renew_18 rfl rfl (by exact h) (by intro h; cases h) dX2_renew_2 ?_
  refine j_aload_n C dX2_renew_5 rfl ?_
  refine j_getR C fX2_renew_9 rfl rfl dX2_renew_6 ?_
  refine j_iconst C dX2_renew_9 ?_
  refine j_callSv2 C vX2_renew_34 rfl (Nat.le_of_ble_eq_true rfl) ⟨Nat.zero_le _, Nat.zero_le _⟩ dX2_renew_10 (ct_J7_fill (k := 9) rfl (by decide) aR_0) (fun g_10 hk_10 => ?_)
  subst hk_10
  refine j_aload_n C dX2_renew_13 rfl ?_
  refine j_getR C fX2_renew_15 rfl rfl dX2_renew_14 ?_
  refine j_iconst C dX2_renew_17 ?_
  refine j_callSv2 C vX2_renew_34 rfl (Nat.le_of_ble_eq_true rfl) ⟨Nat.zero_le _, Nat.zero_le _⟩ dX2_renew_18 (ct_J7_fill (k := 10) rfl (by decide) aR_0) (fun g_18 hk_18 => ?_)
  subst hk_18
  refine j_vretV C dX2_renew_21 (fun hw9 => ?_)
  show _ = lipF g n
  rfl
set_option maxHeartbeats 4000000 in
set_option maxRecDepth 100000 in
theorem ct_X2_spot {a b c : Int} {g : AG} : MetI yX2_spot wsX2_spot rmX2_spot ShW [.inl a, .inl b, .inl c] g (fun x g' => g' = g ∧ x = (a * 21 + b + 10) * 21 + c + 10) := by
  refine metI_of (cc := cX2_spot) (nL := 3) false (by decide +kernel) rfl (Nat.le_of_ble_eq_true rfl) (fun q J C => ?_)
  show J q ShW 0 0 0 [some (.inl a), some (.inl b), some (.inl c)] [] g
  refine j_wf C (fun hw => ?_)
  refine j_iload_n C dX2_spot_0 rfl ?_
  refine j_bipush C dX2_spot_1 (by decide +kernel) ?_
  refine j_imul C dX2_spot_3 ?_
  refine j_iload_n C dX2_spot_4 rfl ?_
  refine j_iadd C dX2_spot_5 ?_
  refine j_bipush C dX2_spot_6 (by decide +kernel) ?_
  refine j_iadd C dX2_spot_8 ?_
  refine j_bipush C dX2_spot_9 (by decide +kernel) ?_
  refine j_imul C dX2_spot_11 ?_
  refine j_iload_n C dX2_spot_12 rfl ?_
  refine j_iadd C dX2_spot_13 ?_
  refine j_bipush C dX2_spot_14 (by decide +kernel) ?_
  refine j_iadd C dX2_spot_16 ?_
  refine j_iretI C dX2_spot_17 (by intro h; cases h) (fun hw9 => ?_)
  exact ⟨rfl, rfl⟩
set_option maxHeartbeats 4000000 in
set_option maxRecDepth 100000 in
theorem ct_X2_together {a b s : Int} {g : AG} (h : aR a ∧ aR b ∧ (s = 0 ∨ s = 1)) : MetI yX2_together wsX2_together rmX2_together ShW [.inl a, .inl b, .inl s] g (fun x g' => g' = g ∧ x = tog s a b) := by
  refine metI_of (cc := cX2_together) (nL := 3) false (by decide +kernel) rfl (Nat.le_of_ble_eq_true rfl) (fun q J C => ?_)
  show J q ShW 0 0 0 [some (.inl a), some (.inl b), some (.inl s)] [] g
  refine j_wf C (fun hw => ?_)
  obtain ⟨h1, h2, h3⟩ := h
  refine j_iload_n C dX2_together_0 rfl ?_
  refine j_if_eq C (tgt := 10) dX2_together_1 (by decide) (by first | exact h1 | exact h2 | omega | (refine ⟨?_, ?_⟩ <;> omega)) (fun c_1 => ?_) (fun c_1 => ?_)
  · refine j_iload_n C dX2_together_10 rfl ?_
    refine j_iload_n C dX2_together_11 rfl ?_
    refine j_mmax C vX2_together_63 rfl (by refine ⟨?_, ?_, ?_, ?_⟩ <;> decide) dX2_together_12 (by first | exact h1 | exact h2 | omega | (refine ⟨?_, ?_⟩ <;> omega)) (by first | exact h1 | exact h2 | omega | (refine ⟨?_, ?_⟩ <;> omega)) ?_
    refine j_iretI C dX2_together_15 (by intro h; cases h) (fun hw9 => ?_)
    exact ⟨rfl, by unfold tog; first | rw [if_pos c_1] | rw [if_neg c_1]⟩
  · refine j_iload_n C dX2_together_4 rfl ?_
    refine j_iload_n C dX2_together_5 rfl ?_
    refine j_iadd C dX2_together_6 ?_
    refine j_goto C (tgt := 15) dX2_together_7 (by decide) ?_
    refine j_iretI C dX2_together_15 (by intro h; cases h) (fun hw9 => ?_)
    exact ⟨rfl, by unfold tog; first | rw [if_pos c_1] | rw [if_neg c_1]⟩
set_option maxHeartbeats 4000000 in
set_option maxRecDepth 100000 in
theorem ct_X5_with {k a b : Int} {g : AG} (h : aR a ∧ aR b ∧ (k = 0 ∨ k = 1)) : MetI yX5_with wsX5_with rmX5_with ShW [.inl k, .inl a, .inl b] g (fun x g' => g' = g ∧ x = tog (if k = 0 then 1 else 0) a b) := by
  refine metI_of (cc := cX5_with) (nL := 3) false (by decide +kernel) rfl (Nat.le_of_ble_eq_true rfl) (fun q J C => ?_)
  show J q ShW 0 0 0 [some (.inl k), some (.inl a), some (.inl b)] [] g
  refine j_wf C (fun hw => ?_)
  obtain ⟨h1, h2, h3⟩ := h
  refine j_iload_n C dX5_with_0 rfl ?_
  refine j_if_ne C (tgt := 10) dX5_with_1 (by decide) (by first | exact h1 | exact h2 | omega | (refine ⟨?_, ?_⟩ <;> omega)) (fun c_1 => ?_) (fun c_1 => ?_)
  · refine j_iload_n C dX5_with_10 rfl ?_
    refine j_iload_n C dX5_with_11 rfl ?_
    refine j_icmp_le C (tgt := 19) dX5_with_12 (by decide) (by first | exact h1 | exact h2 | omega | (refine ⟨?_, ?_⟩ <;> omega)) (by first | exact h1 | exact h2 | omega | (refine ⟨?_, ?_⟩ <;> omega)) (fun c_12 => ?_) (fun c_12 => ?_)
    · refine j_iload_n C dX5_with_19 rfl ?_
      refine j_iretI C dX5_with_20 (by intro h; cases h) (fun hw9 => ?_)
      refine ⟨rfl, ?_⟩
      unfold tog
      first
      | (rw [if_pos c_1, if_neg (by decide)]; done)
      | (rw [if_neg c_1, if_pos rfl]; omega)
    · refine j_iload_n C dX5_with_15 rfl ?_
      refine j_goto C (tgt := 20) dX5_with_16 (by decide) ?_
      refine j_iretI C dX5_with_20 (by intro h; cases h) (fun hw9 => ?_)
      refine ⟨rfl, ?_⟩
      unfold tog
      first
      | (rw [if_pos c_1, if_neg (by decide)]; done)
      | (rw [if_neg c_1, if_pos rfl]; omega)
  · refine j_iload_n C dX5_with_4 rfl ?_
    refine j_iload_n C dX5_with_5 rfl ?_
    refine j_iadd C dX5_with_6 ?_
    refine j_goto C (tgt := 20) dX5_with_7 (by decide) ?_
    refine j_iretI C dX5_with_20 (by intro h; cases h) (fun hw9 => ?_)
    refine ⟨rfl, ?_⟩
    unfold tog
    first
    | (rw [if_pos c_1, if_neg (by decide)]; done)
    | (rw [if_neg c_1, if_pos rfl]; omega)
set_option maxHeartbeats 4000000 in
set_option maxRecDepth 100000 in
theorem ct_X2_errorOf {p : Int} {g : AG} (h : LX g ∧ 0 ≤ p ∧ p < g 8 2) : MetI yX2_errorOf wsX2_errorOf rmX2_errorOf ShW [.inr 8, .inl p] g (fun x g' => g' = g ∧ x = eP (g 9) (g 10) (g 8 5) (g 8 6) (g 8 2) p) := by
  refine metI_of (cc := cX2_errorOf) (nL := 3) false (by decide +kernel) rfl (Nat.le_of_ble_eq_true rfl) (fun q J C => ?_)
  show J q ShW 0 0 0 [some (.inr 8), some (.inl p), none] [] g
  refine j_wf C (fun hw => ?_)
  obtain ⟨hL, h1, h2⟩ := h
  have hn := hL.1
  refine j_aload_n C dX2_errorOf_0 rfl ?_
  refine j_getR C fX2_errorOf_9 rfl rfl dX2_errorOf_1 ?_
  refine j_iload_n C dX2_errorOf_4 rfl ?_
  refine j_iaload C rfl (by decide) dX2_errorOf_5 (by first | omega | (refine ⟨?_, ?_⟩ <;> omega) | exact hw _ _ | exact nrm_R _) (by first | omega | (refine ⟨?_, ?_⟩ <;> omega) | exact hw _ _ | exact nrm_R _) ?_
  refine j_aload_n C dX2_errorOf_6 rfl ?_
  refine j_getI C fX2_errorOf_28 rfl rfl dX2_errorOf_7 ?_
  refine j_aload_n C dX2_errorOf_10 rfl ?_
  refine j_getR C fX2_errorOf_15 rfl rfl dX2_errorOf_11 ?_
  refine j_iload_n C dX2_errorOf_14 rfl ?_
  refine j_iaload C rfl (by decide) dX2_errorOf_15 (by first | omega | (refine ⟨?_, ?_⟩ <;> omega) | exact hw _ _ | exact nrm_R _) (by first | omega | (refine ⟨?_, ?_⟩ <;> omega) | exact hw _ _ | exact nrm_R _) ?_
  refine j_imul C dX2_errorOf_16 ?_
  refine j_iadd C dX2_errorOf_17 ?_
  refine j_istore_n C dX2_errorOf_18 (Nat.le_of_ble_eq_true rfl) ?_
  dsimp only [List.set]
  refine j_iload_n C dX2_errorOf_19 rfl ?_
  refine j_if_le C (tgt := 39) dX2_errorOf_20 (by decide) (by first | omega | (refine ⟨?_, ?_⟩ <;> omega) | exact hw _ _ | exact nrm_R _) (fun c_20 => ?_) (fun c_20 => ?_)
  · refine j_iload_n C dX2_errorOf_39 rfl ?_
    refine j_aload_n C dX2_errorOf_40 rfl ?_
    refine j_getI C fX2_errorOf_18 rfl rfl dX2_errorOf_41 ?_
    refine j_iconst C dX2_errorOf_44 ?_
    refine j_isub C dX2_errorOf_45 ?_
    refine j_icmp_ge C (tgt := 65) dX2_errorOf_46 (by decide) (by first | omega | (refine ⟨?_, ?_⟩ <;> omega) | exact hw _ _ | exact nrm_R _) (by first | omega | (refine ⟨?_, ?_⟩ <;> omega) | exact hw _ _ | exact nrm_R _) (fun c_46 => ?_) (fun c_46 => ?_)
    · refine j_iload_n C dX2_errorOf_65 rfl ?_
      refine j_iretI C dX2_errorOf_66 (by intro h; cases h) (fun hw9 => ?_)
      refine ⟨rfl, ?_⟩
      unfold eP
      by_cases q1 : 0 < p
      · by_cases q2 : p < g 8 2 - 1
        · rw [if_pos q1, if_pos q2]
          all_goals first | rfl | omega
        · rw [if_pos q1, if_neg q2]
          all_goals first | rfl | omega
      · by_cases q2 : p < g 8 2 - 1
        · rw [if_neg q1, if_pos q2]
          all_goals first | rfl | omega
        · rw [if_neg q1, if_neg q2]
          all_goals first | rfl | omega
    · refine j_iload_n C dX2_errorOf_49 rfl ?_
      refine j_aload_n C dX2_errorOf_50 rfl ?_
      refine j_getI C fX2_errorOf_40 rfl rfl dX2_errorOf_51 ?_
      refine j_aload_n C dX2_errorOf_54 rfl ?_
      refine j_getR C fX2_errorOf_15 rfl rfl dX2_errorOf_55 ?_
      refine j_iload_n C dX2_errorOf_58 rfl ?_
      refine j_iconst C dX2_errorOf_59 ?_
      refine j_iadd C dX2_errorOf_60 ?_
      refine j_iaload C rfl (by decide) dX2_errorOf_61 (by first | omega | (refine ⟨?_, ?_⟩ <;> omega) | exact hw _ _ | exact nrm_R _) (by first | omega | (refine ⟨?_, ?_⟩ <;> omega) | exact hw _ _ | exact nrm_R _) ?_
      refine j_imul C dX2_errorOf_62 ?_
      refine j_iadd C dX2_errorOf_63 ?_
      refine j_istore_n C dX2_errorOf_64 (Nat.le_of_ble_eq_true rfl) ?_
      dsimp only [List.set]
      refine j_iload_n C dX2_errorOf_65 rfl ?_
      refine j_iretI C dX2_errorOf_66 (by intro h; cases h) (fun hw9 => ?_)
      refine ⟨rfl, ?_⟩
      unfold eP
      by_cases q1 : 0 < p
      · by_cases q2 : p < g 8 2 - 1
        · rw [if_pos q1, if_pos q2]
          all_goals first | rfl | omega
        · rw [if_pos q1, if_neg q2]
          all_goals first | rfl | omega
      · by_cases q2 : p < g 8 2 - 1
        · rw [if_neg q1, if_pos q2]
          all_goals first | rfl | omega
        · rw [if_neg q1, if_neg q2]
          all_goals first | rfl | omega
  · refine j_iload_n C dX2_errorOf_23 rfl ?_
    refine j_aload_n C dX2_errorOf_24 rfl ?_
    refine j_getI C fX2_errorOf_40 rfl rfl dX2_errorOf_25 ?_
    refine j_aload_n C dX2_errorOf_28 rfl ?_
    refine j_getR C fX2_errorOf_15 rfl rfl dX2_errorOf_29 ?_
    refine j_iload_n C dX2_errorOf_32 rfl ?_
    refine j_iconst C dX2_errorOf_33 ?_
    refine j_isub C dX2_errorOf_34 ?_
    refine j_iaload C rfl (by decide) dX2_errorOf_35 (by first | omega | (refine ⟨?_, ?_⟩ <;> omega) | exact hw _ _ | exact nrm_R _) (by first | omega | (refine ⟨?_, ?_⟩ <;> omega) | exact hw _ _ | exact nrm_R _) ?_
    refine j_imul C dX2_errorOf_36 ?_
    refine j_iadd C dX2_errorOf_37 ?_
    refine j_istore_n C dX2_errorOf_38 (Nat.le_of_ble_eq_true rfl) ?_
    dsimp only [List.set]
    refine j_iload_n C dX2_errorOf_39 rfl ?_
    refine j_aload_n C dX2_errorOf_40 rfl ?_
    refine j_getI C fX2_errorOf_18 rfl rfl dX2_errorOf_41 ?_
    refine j_iconst C dX2_errorOf_44 ?_
    refine j_isub C dX2_errorOf_45 ?_
    refine j_icmp_ge C (tgt := 65) dX2_errorOf_46 (by decide) (by first | omega | (refine ⟨?_, ?_⟩ <;> omega) | exact hw _ _ | exact nrm_R _) (by first | omega | (refine ⟨?_, ?_⟩ <;> omega) | exact hw _ _ | exact nrm_R _) (fun c_46 => ?_) (fun c_46 => ?_)
    · refine j_iload_n C dX2_errorOf_65 rfl ?_
      refine j_iretI C dX2_errorOf_66 (by intro h; cases h) (fun hw9 => ?_)
      refine ⟨rfl, ?_⟩
      unfold eP
      by_cases q1 : 0 < p
      · by_cases q2 : p < g 8 2 - 1
        · rw [if_pos q1, if_pos q2]
          all_goals first | rfl | omega
        · rw [if_pos q1, if_neg q2]
          all_goals first | rfl | omega
      · by_cases q2 : p < g 8 2 - 1
        · rw [if_neg q1, if_pos q2]
          all_goals first | rfl | omega
        · rw [if_neg q1, if_neg q2]
          all_goals first | rfl | omega
    · refine j_iload_n C dX2_errorOf_49 rfl ?_
      refine j_aload_n C dX2_errorOf_50 rfl ?_
      refine j_getI C fX2_errorOf_40 rfl rfl dX2_errorOf_51 ?_
      refine j_aload_n C dX2_errorOf_54 rfl ?_
      refine j_getR C fX2_errorOf_15 rfl rfl dX2_errorOf_55 ?_
      refine j_iload_n C dX2_errorOf_58 rfl ?_
      refine j_iconst C dX2_errorOf_59 ?_
      refine j_iadd C dX2_errorOf_60 ?_
      refine j_iaload C rfl (by decide) dX2_errorOf_61 (by first | omega | (refine ⟨?_, ?_⟩ <;> omega) | exact hw _ _ | exact nrm_R _) (by first | omega | (refine ⟨?_, ?_⟩ <;> omega) | exact hw _ _ | exact nrm_R _) ?_
      refine j_imul C dX2_errorOf_62 ?_
      refine j_iadd C dX2_errorOf_63 ?_
      refine j_istore_n C dX2_errorOf_64 (Nat.le_of_ble_eq_true rfl) ?_
      dsimp only [List.set]
      refine j_iload_n C dX2_errorOf_65 rfl ?_
      refine j_iretI C dX2_errorOf_66 (by intro h; cases h) (fun hw9 => ?_)
      refine ⟨rfl, ?_⟩
      unfold eP
      by_cases q1 : 0 < p
      · by_cases q2 : p < g 8 2 - 1
        · rw [if_pos q1, if_pos q2]
          all_goals first | rfl | omega
        · rw [if_pos q1, if_neg q2]
          all_goals first | rfl | omega
      · by_cases q2 : p < g 8 2 - 1
        · rw [if_neg q1, if_pos q2]
          all_goals first | rfl | omega
        · rw [if_neg q1, if_neg q2]
          all_goals first | rfl | omega
set_option maxHeartbeats 4000000 in
set_option maxRecDepth 100000 in
theorem ct_X2_sizeOf {p : Int} {g : AG} (h : LX g ∧ 0 ≤ p ∧ p < g 8 2) : MetI yX2_sizeOf wsX2_sizeOf rmX2_sizeOf ShW [.inr 8, .inl p] g (fun x g' => g' = g ∧ x = szX g p) := by
  refine metI_of (cc := cX2_sizeOf) (nL := 2) false (by decide +kernel) rfl (Nat.le_of_ble_eq_true rfl) (fun q J C => ?_)
  show J q ShW 0 0 0 [some (.inr 8), some (.inl p)] [] g
  refine j_wf C (fun hw => ?_)
  have hE := eP_b h.1 p
  refine j_aload_n C dX2_sizeOf_0 rfl ?_
  refine j_iload_n C dX2_sizeOf_1 rfl ?_
  refine j_callVi1 C vX2_sizeOf_53 rfl rfl (Nat.le_of_ble_eq_true rfl) ⟨Nat.zero_le _, Nat.zero_le _⟩ dX2_sizeOf_2 (ct_X2_errorOf h) (fun x_2 g_2 hk_2 => ?_)
  obtain ⟨e_2, rfl⟩ := hk_2
  have e_2 := e_2.symm
  subst e_2
  refine j_mabs C vX2_sizeOf_47 rfl (by refine ⟨?_, ?_, ?_, ?_⟩ <;> decide) dX2_sizeOf_5 (by first | omega | (refine ⟨?_, ?_⟩ <;> omega) | exact hw _ _ | exact nrm_R _) (by first | omega | (refine ⟨?_, ?_⟩ <;> omega) | exact hw _ _ | exact nrm_R _) ?_
  refine j_iretI C dX2_sizeOf_8 (by intro h; cases h) (fun hw9 => ?_)
  exact ⟨rfl, rfl⟩
set_option maxHeartbeats 4000000 in
set_option maxRecDepth 100000 in
theorem ct_X5_error {p : Int} {g : AG} (h : LM g ∧ 0 ≤ p ∧ p < g 21 0) : MetI yX5_error wsX5_error rmX5_error ShW [.inr 21, .inl p] g (fun x g' => g' = g ∧ x = eP (g 28) (g 29) (g 21 12) (g 21 13) (g 21 0) p) := by
  refine metI_of (cc := cX5_error) (nL := 4) false (by decide +kernel) rfl (Nat.le_of_ble_eq_true rfl) (fun q J C => ?_)
  show J q ShW 0 0 0 [some (.inr 21), some (.inl p), none, none] [] g
  refine j_wf C (fun hw => ?_)
  obtain ⟨hL, h1, h2⟩ := h
  have hn := hL.1
  refine j_iload_n C dX5_error_0 rfl ?_
  refine j_if_le C (tgt := 15) dX5_error_1 (by decide) (by first | omega | (refine ⟨?_, ?_⟩ <;> omega) | exact hw _ _ | exact nrm_R _) (fun c_1 => ?_) (fun c_1 => ?_)
  · refine j_iconst C dX5_error_15 ?_
    refine j_istore_n C dX5_error_16 (Nat.le_of_ble_eq_true rfl) ?_
    dsimp only [List.set]
    refine j_iload_n C dX5_error_17 rfl ?_
    refine j_iconst C dX5_error_18 ?_
    refine j_iadd C dX5_error_19 ?_
    refine j_aload_n C dX5_error_20 rfl ?_
    refine j_getI C fX5_error_7 rfl rfl dX5_error_21 ?_
    refine j_icmp_ge C (tgt := 38) dX5_error_24 (by decide) (by first | omega | (refine ⟨?_, ?_⟩ <;> omega) | exact hw _ _ | exact nrm_R _) (by first | omega | (refine ⟨?_, ?_⟩ <;> omega) | exact hw _ _ | exact nrm_R _) (fun c_24 => ?_) (fun c_24 => ?_)
    · refine j_iconst C dX5_error_38 ?_
      refine j_istore_n C dX5_error_39 (Nat.le_of_ble_eq_true rfl) ?_
      dsimp only [List.set]
      refine j_aload_n C dX5_error_40 rfl ?_
      refine j_getR C fX5_error_33 rfl rfl dX5_error_41 ?_
      refine j_iload_n C dX5_error_44 rfl ?_
      refine j_iaload C rfl (by decide) dX5_error_45 (by first | omega | (refine ⟨?_, ?_⟩ <;> omega) | exact hw _ _ | exact nrm_R _) (by first | omega | (refine ⟨?_, ?_⟩ <;> omega) | exact hw _ _ | exact nrm_R _) ?_
      refine j_aload_n C dX5_error_46 rfl ?_
      refine j_getI C fX5_error_45 rfl rfl dX5_error_47 ?_
      refine j_aload_n C dX5_error_50 rfl ?_
      refine j_getR C fX5_error_36 rfl rfl dX5_error_51 ?_
      refine j_iload_n C dX5_error_54 rfl ?_
      refine j_iaload C rfl (by decide) dX5_error_55 (by first | omega | (refine ⟨?_, ?_⟩ <;> omega) | exact hw _ _ | exact nrm_R _) (by first | omega | (refine ⟨?_, ?_⟩ <;> omega) | exact hw _ _ | exact nrm_R _) ?_
      refine j_imul C dX5_error_56 ?_
      refine j_iadd C dX5_error_57 ?_
      refine j_aload_n C dX5_error_58 rfl ?_
      refine j_getI C fX5_error_106 rfl rfl dX5_error_59 ?_
      refine j_iload_n C dX5_error_62 rfl ?_
      refine j_iload_n C dX5_error_63 rfl ?_
      refine j_iadd C dX5_error_64 ?_
      refine j_imul C dX5_error_65 ?_
      refine j_iadd C dX5_error_66 ?_
      refine j_iretI C dX5_error_67 (by intro h; cases h) (fun hw9 => ?_)
      refine ⟨rfl, ?_⟩
      unfold eP
      by_cases q1 : 0 < p
      · by_cases q2 : p < g 21 0 - 1
        · rw [if_pos q1, if_pos q2]
          first | (rw [Int.mul_add]; omega) | omega
        · rw [if_pos q1, if_neg q2]
          first | (rw [Int.mul_add]; omega) | omega
      · by_cases q2 : p < g 21 0 - 1
        · rw [if_neg q1, if_pos q2]
          first | (rw [Int.mul_add]; omega) | omega
        · rw [if_neg q1, if_neg q2]
          first | (rw [Int.mul_add]; omega) | omega
    · refine j_aload_n C dX5_error_27 rfl ?_
      refine j_getR C fX5_error_36 rfl rfl dX5_error_28 ?_
      refine j_iload_n C dX5_error_31 rfl ?_
      refine j_iconst C dX5_error_32 ?_
      refine j_iadd C dX5_error_33 ?_
      refine j_iaload C rfl (by decide) dX5_error_34 (by first | omega | (refine ⟨?_, ?_⟩ <;> omega) | exact hw _ _ | exact nrm_R _) (by first | omega | (refine ⟨?_, ?_⟩ <;> omega) | exact hw _ _ | exact nrm_R _) ?_
      refine j_goto C (tgt := 39) dX5_error_35 (by decide) ?_
      refine j_istore_n C dX5_error_39 (Nat.le_of_ble_eq_true rfl) ?_
      dsimp only [List.set]
      refine j_aload_n C dX5_error_40 rfl ?_
      refine j_getR C fX5_error_33 rfl rfl dX5_error_41 ?_
      refine j_iload_n C dX5_error_44 rfl ?_
      refine j_iaload C rfl (by decide) dX5_error_45 (by first | omega | (refine ⟨?_, ?_⟩ <;> omega) | exact hw _ _ | exact nrm_R _) (by first | omega | (refine ⟨?_, ?_⟩ <;> omega) | exact hw _ _ | exact nrm_R _) ?_
      refine j_aload_n C dX5_error_46 rfl ?_
      refine j_getI C fX5_error_45 rfl rfl dX5_error_47 ?_
      refine j_aload_n C dX5_error_50 rfl ?_
      refine j_getR C fX5_error_36 rfl rfl dX5_error_51 ?_
      refine j_iload_n C dX5_error_54 rfl ?_
      refine j_iaload C rfl (by decide) dX5_error_55 (by first | omega | (refine ⟨?_, ?_⟩ <;> omega) | exact hw _ _ | exact nrm_R _) (by first | omega | (refine ⟨?_, ?_⟩ <;> omega) | exact hw _ _ | exact nrm_R _) ?_
      refine j_imul C dX5_error_56 ?_
      refine j_iadd C dX5_error_57 ?_
      refine j_aload_n C dX5_error_58 rfl ?_
      refine j_getI C fX5_error_106 rfl rfl dX5_error_59 ?_
      refine j_iload_n C dX5_error_62 rfl ?_
      refine j_iload_n C dX5_error_63 rfl ?_
      refine j_iadd C dX5_error_64 ?_
      refine j_imul C dX5_error_65 ?_
      refine j_iadd C dX5_error_66 ?_
      refine j_iretI C dX5_error_67 (by intro h; cases h) (fun hw9 => ?_)
      refine ⟨rfl, ?_⟩
      unfold eP
      by_cases q1 : 0 < p
      · by_cases q2 : p < g 21 0 - 1
        · rw [if_pos q1, if_pos q2]
          first | (rw [Int.mul_add]; omega) | omega
        · rw [if_pos q1, if_neg q2]
          first | (rw [Int.mul_add]; omega) | omega
      · by_cases q2 : p < g 21 0 - 1
        · rw [if_neg q1, if_pos q2]
          first | (rw [Int.mul_add]; omega) | omega
        · rw [if_neg q1, if_neg q2]
          first | (rw [Int.mul_add]; omega) | omega
  · refine j_aload_n C dX5_error_4 rfl ?_
    refine j_getR C fX5_error_36 rfl rfl dX5_error_5 ?_
    refine j_iload_n C dX5_error_8 rfl ?_
    refine j_iconst C dX5_error_9 ?_
    refine j_isub C dX5_error_10 ?_
    refine j_iaload C rfl (by decide) dX5_error_11 (by first | omega | (refine ⟨?_, ?_⟩ <;> omega) | exact hw _ _ | exact nrm_R _) (by first | omega | (refine ⟨?_, ?_⟩ <;> omega) | exact hw _ _ | exact nrm_R _) ?_
    refine j_goto C (tgt := 16) dX5_error_12 (by decide) ?_
    refine j_istore_n C dX5_error_16 (Nat.le_of_ble_eq_true rfl) ?_
    dsimp only [List.set]
    refine j_iload_n C dX5_error_17 rfl ?_
    refine j_iconst C dX5_error_18 ?_
    refine j_iadd C dX5_error_19 ?_
    refine j_aload_n C dX5_error_20 rfl ?_
    refine j_getI C fX5_error_7 rfl rfl dX5_error_21 ?_
    refine j_icmp_ge C (tgt := 38) dX5_error_24 (by decide) (by first | omega | (refine ⟨?_, ?_⟩ <;> omega) | exact hw _ _ | exact nrm_R _) (by first | omega | (refine ⟨?_, ?_⟩ <;> omega) | exact hw _ _ | exact nrm_R _) (fun c_24 => ?_) (fun c_24 => ?_)
    · refine j_iconst C dX5_error_38 ?_
      refine j_istore_n C dX5_error_39 (Nat.le_of_ble_eq_true rfl) ?_
      dsimp only [List.set]
      refine j_aload_n C dX5_error_40 rfl ?_
      refine j_getR C fX5_error_33 rfl rfl dX5_error_41 ?_
      refine j_iload_n C dX5_error_44 rfl ?_
      refine j_iaload C rfl (by decide) dX5_error_45 (by first | omega | (refine ⟨?_, ?_⟩ <;> omega) | exact hw _ _ | exact nrm_R _) (by first | omega | (refine ⟨?_, ?_⟩ <;> omega) | exact hw _ _ | exact nrm_R _) ?_
      refine j_aload_n C dX5_error_46 rfl ?_
      refine j_getI C fX5_error_45 rfl rfl dX5_error_47 ?_
      refine j_aload_n C dX5_error_50 rfl ?_
      refine j_getR C fX5_error_36 rfl rfl dX5_error_51 ?_
      refine j_iload_n C dX5_error_54 rfl ?_
      refine j_iaload C rfl (by decide) dX5_error_55 (by first | omega | (refine ⟨?_, ?_⟩ <;> omega) | exact hw _ _ | exact nrm_R _) (by first | omega | (refine ⟨?_, ?_⟩ <;> omega) | exact hw _ _ | exact nrm_R _) ?_
      refine j_imul C dX5_error_56 ?_
      refine j_iadd C dX5_error_57 ?_
      refine j_aload_n C dX5_error_58 rfl ?_
      refine j_getI C fX5_error_106 rfl rfl dX5_error_59 ?_
      refine j_iload_n C dX5_error_62 rfl ?_
      refine j_iload_n C dX5_error_63 rfl ?_
      refine j_iadd C dX5_error_64 ?_
      refine j_imul C dX5_error_65 ?_
      refine j_iadd C dX5_error_66 ?_
      refine j_iretI C dX5_error_67 (by intro h; cases h) (fun hw9 => ?_)
      refine ⟨rfl, ?_⟩
      unfold eP
      by_cases q1 : 0 < p
      · by_cases q2 : p < g 21 0 - 1
        · rw [if_pos q1, if_pos q2]
          first | (rw [Int.mul_add]; omega) | omega
        · rw [if_pos q1, if_neg q2]
          first | (rw [Int.mul_add]; omega) | omega
      · by_cases q2 : p < g 21 0 - 1
        · rw [if_neg q1, if_pos q2]
          first | (rw [Int.mul_add]; omega) | omega
        · rw [if_neg q1, if_neg q2]
          first | (rw [Int.mul_add]; omega) | omega
    · refine j_aload_n C dX5_error_27 rfl ?_
      refine j_getR C fX5_error_36 rfl rfl dX5_error_28 ?_
      refine j_iload_n C dX5_error_31 rfl ?_
      refine j_iconst C dX5_error_32 ?_
      refine j_iadd C dX5_error_33 ?_
      refine j_iaload C rfl (by decide) dX5_error_34 (by first | omega | (refine ⟨?_, ?_⟩ <;> omega) | exact hw _ _ | exact nrm_R _) (by first | omega | (refine ⟨?_, ?_⟩ <;> omega) | exact hw _ _ | exact nrm_R _) ?_
      refine j_goto C (tgt := 39) dX5_error_35 (by decide) ?_
      refine j_istore_n C dX5_error_39 (Nat.le_of_ble_eq_true rfl) ?_
      dsimp only [List.set]
      refine j_aload_n C dX5_error_40 rfl ?_
      refine j_getR C fX5_error_33 rfl rfl dX5_error_41 ?_
      refine j_iload_n C dX5_error_44 rfl ?_
      refine j_iaload C rfl (by decide) dX5_error_45 (by first | omega | (refine ⟨?_, ?_⟩ <;> omega) | exact hw _ _ | exact nrm_R _) (by first | omega | (refine ⟨?_, ?_⟩ <;> omega) | exact hw _ _ | exact nrm_R _) ?_
      refine j_aload_n C dX5_error_46 rfl ?_
      refine j_getI C fX5_error_45 rfl rfl dX5_error_47 ?_
      refine j_aload_n C dX5_error_50 rfl ?_
      refine j_getR C fX5_error_36 rfl rfl dX5_error_51 ?_
      refine j_iload_n C dX5_error_54 rfl ?_
      refine j_iaload C rfl (by decide) dX5_error_55 (by first | omega | (refine ⟨?_, ?_⟩ <;> omega) | exact hw _ _ | exact nrm_R _) (by first | omega | (refine ⟨?_, ?_⟩ <;> omega) | exact hw _ _ | exact nrm_R _) ?_
      refine j_imul C dX5_error_56 ?_
      refine j_iadd C dX5_error_57 ?_
      refine j_aload_n C dX5_error_58 rfl ?_
      refine j_getI C fX5_error_106 rfl rfl dX5_error_59 ?_
      refine j_iload_n C dX5_error_62 rfl ?_
      refine j_iload_n C dX5_error_63 rfl ?_
      refine j_iadd C dX5_error_64 ?_
      refine j_imul C dX5_error_65 ?_
      refine j_iadd C dX5_error_66 ?_
      refine j_iretI C dX5_error_67 (by intro h; cases h) (fun hw9 => ?_)
      refine ⟨rfl, ?_⟩
      unfold eP
      by_cases q1 : 0 < p
      · by_cases q2 : p < g 21 0 - 1
        · rw [if_pos q1, if_pos q2]
          first | (rw [Int.mul_add]; omega) | omega
        · rw [if_pos q1, if_neg q2]
          first | (rw [Int.mul_add]; omega) | omega
      · by_cases q2 : p < g 21 0 - 1
        · rw [if_neg q1, if_pos q2]
          first | (rw [Int.mul_add]; omega) | omega
        · rw [if_neg q1, if_neg q2]
          first | (rw [Int.mul_add]; omega) | omega
set_option maxHeartbeats 4000000 in
set_option maxRecDepth 100000 in
theorem ct_X2_unevenness {s : Int} {g : AG} (h : LX g ∧ (s = 0 ∨ s = 1)) : MetI yX2_unevenness wsX2_unevenness rmX2_unevenness ShW [.inr 8, .inl s] g (fun x g' => g' = g ∧ x = unv s (fun j => szX g (j : Int)) (g 8 2).toNat) := by
  refine metI_of (cc := cX2_unevenness) (nL := 4) false (by decide +kernel) rfl (Nat.le_of_ble_eq_true rfl) (fun q J C => ?_)
  show J q ShW 0 0 0 [some (.inr 8), some (.inl s), none, none] [] g
  refine j_wf C (fun hw => ?_)
  obtain ⟨hL, hs⟩ := h
  have hn := hL.1
  have lp : ∀ k : Nat, ∀ (i : Int), (g 8 2 - i).toNat = k → 0 ≤ i → i ≤ g 8 2 → J q ShW 0 0 4 [some (.inr 8), some (.inl s), some (.inl (unv s (fun j => szX g (j : Int)) i.toNat)), some (.inl i)] [] g := by
    refine byN _ (fun k ih i hn2 h0 h1 => ?_)
    have hu := unv_b (s := s) (fun j => szX_b hL ((j : Nat) : Int)) i.toNat
    have hz := szX_b hL i
    refine j_iload_n C dX2_unevenness_4 rfl ?_
    refine j_aload_n C dX2_unevenness_5 rfl ?_
    refine j_getI C fX2_unevenness_18 rfl rfl dX2_unevenness_6 ?_
    refine j_icmp_ge C (tgt := 29) dX2_unevenness_9 (by decide) (by first | omega | (refine ⟨?_, ?_⟩ <;> omega) | exact hw _ _ | exact nrm_R _) (by first | omega | (refine ⟨?_, ?_⟩ <;> omega) | exact hw _ _ | exact nrm_R _) (fun c_9 => ?_) (fun c_9 => ?_)
    · refine j_iload_n C dX2_unevenness_29 rfl ?_
      refine j_iretI C dX2_unevenness_30 (by intro h; cases h) (fun hw9 => ?_)
      exact ⟨rfl, by rw [show i.toNat = (g 8 2).toNat by omega]⟩
    · refine j_iload_n C dX2_unevenness_12 rfl ?_
      refine j_aload_n C dX2_unevenness_13 rfl ?_
      refine j_iload_n C dX2_unevenness_14 rfl ?_
      refine j_callVi1 C vX2_unevenness_56 rfl rfl (Nat.le_of_ble_eq_true rfl) ⟨Nat.zero_le _, Nat.zero_le _⟩ dX2_unevenness_15 (ct_X2_sizeOf ⟨hL, by omega, by omega⟩) (fun x_15 g_15 hk_15 => ?_)
      obtain ⟨e_15, rfl⟩ := hk_15
      have e_15 := e_15.symm
      subst e_15
      refine j_iload_n C dX2_unevenness_18 rfl ?_
      refine j_callSi3 C vX2_unevenness_59 rfl (Nat.le_of_ble_eq_true rfl) ⟨Nat.zero_le _, Nat.zero_le _⟩ dX2_unevenness_19 (ct_X2_together ⟨⟨by omega, by omega⟩, ⟨by omega, by omega⟩, hs⟩) (fun x_19 g_19 hk_19 => ?_)
      obtain ⟨e_19, rfl⟩ := hk_19
      have e_19 := e_19.symm
      subst e_19
      refine j_istore_n C dX2_unevenness_22 (Nat.le_of_ble_eq_true rfl) ?_
      dsimp only [List.set]
      refine j_iinc C dX2_unevenness_23 rfl ?_
      dsimp only [List.set]
      refine j_goto C (tgt := 4) dX2_unevenness_26 (by decide) ?_
      refine j_cast (ih _ (by omega) (i + 1) rfl (by omega) (by omega)) ?_ rfl rfl
      rw [show (i + 1).toNat = i.toNat + 1 by omega, unv, show ((i.toNat : Nat) : Int) = i by omega]
  refine j_iconst C dX2_unevenness_0 ?_
  refine j_istore_n C dX2_unevenness_1 (Nat.le_of_ble_eq_true rfl) ?_
  dsimp only [List.set]
  refine j_iconst C dX2_unevenness_2 ?_
  refine j_istore_n C dX2_unevenness_3 (Nat.le_of_ble_eq_true rfl) ?_
  dsimp only [List.set]
  exact lp _ 0 rfl (by omega) (by omega)
set_option maxHeartbeats 4000000 in
set_option maxRecDepth 100000 in
theorem ct_X5_unevenOf {k : Int} {g : AG} (h : LM g ∧ (k = 0 ∨ k = 1)) : MetI yX5_unevenOf wsX5_unevenOf rmX5_unevenOf ShW [.inr 21, .inl k] g (fun x g' => g' = g ∧ x = unv (if k = 0 then 1 else 0) (fun j => szM g (j : Int)) (g 21 0).toNat) := by
  refine metI_of (cc := cX5_unevenOf) (nL := 4) false (by decide +kernel) rfl (Nat.le_of_ble_eq_true rfl) (fun q J C => ?_)
  show J q ShW 0 0 0 [some (.inr 21), some (.inl k), none, none] [] g
  refine j_wf C (fun hw => ?_)
  obtain ⟨hL, hs⟩ := h
  have hn := hL.1
  have lp : ∀ n : Nat, ∀ (i : Int), (g 21 0 - i).toNat = n → 0 ≤ i → i ≤ g 21 0 → J q ShW 0 0 4 [some (.inr 21), some (.inl k), some (.inl (unv (if k = 0 then 1 else 0) (fun j => szM g (j : Int)) i.toNat)), some (.inl i)] [] g := by
    refine byN _ (fun n ih i hn2 h0 h1 => ?_)
    have hu := unv_b (s := if k = 0 then 1 else 0) (fun j => szM_b hL ((j : Nat) : Int)) i.toNat
    have hz := szM_b hL i
    have hE := eP_b hL i
    refine j_iload_n C dX5_unevenOf_4 rfl ?_
    refine j_aload_n C dX5_unevenOf_5 rfl ?_
    refine j_getI C fX5_unevenOf_7 rfl rfl dX5_unevenOf_6 ?_
    refine j_icmp_ge C (tgt := 32) dX5_unevenOf_9 (by decide) (by first | omega | (refine ⟨?_, ?_⟩ <;> omega) | exact hw _ _ | exact nrm_R _) (by first | omega | (refine ⟨?_, ?_⟩ <;> omega) | exact hw _ _ | exact nrm_R _) (fun c_9 => ?_) (fun c_9 => ?_)
    · refine j_iload_n C dX5_unevenOf_32 rfl ?_
      refine j_iretI C dX5_unevenOf_33 (by intro h; cases h) (fun hw9 => ?_)
      exact ⟨rfl, by rw [show i.toNat = (g 21 0).toNat by omega]⟩
    · refine j_iload_n C dX5_unevenOf_12 rfl ?_
      refine j_iload_n C dX5_unevenOf_13 rfl ?_
      refine j_aload_n C dX5_unevenOf_14 rfl ?_
      refine j_iload_n C dX5_unevenOf_15 rfl ?_
      refine j_callVi1 C vX5_unevenOf_109 rfl rfl (Nat.le_of_ble_eq_true rfl) ⟨Nat.zero_le _, Nat.zero_le _⟩ dX5_unevenOf_16 (ct_X5_error ⟨hL, by omega, by omega⟩) (fun x_16 g_16 hk_16 => ?_)
      obtain ⟨e_16, rfl⟩ := hk_16
      have e_16 := e_16.symm
      subst e_16
      refine j_callSi1 C vX5_unevenOf_99 rfl (Nat.le_of_ble_eq_true rfl) ⟨Nat.zero_le _, Nat.zero_le _⟩ dX5_unevenOf_19 (ct_X5_size ⟨by omega, by omega⟩) (fun x_19 g_19 hk_19 => ?_)
      obtain ⟨e_19, rfl⟩ := hk_19
      have e_19 := e_19.symm
      subst e_19
      refine j_callSi3 C vX5_unevenOf_112 rfl (Nat.le_of_ble_eq_true rfl) ⟨Nat.zero_le _, Nat.zero_le _⟩ dX5_unevenOf_22 (ct_X5_with ⟨⟨by omega, by omega⟩, ⟨by omega, by omega⟩, hs⟩) (fun x_22 g_22 hk_22 => ?_)
      obtain ⟨e_22, rfl⟩ := hk_22
      have e_22 := e_22.symm
      subst e_22
      refine j_istore_n C dX5_unevenOf_25 (Nat.le_of_ble_eq_true rfl) ?_
      dsimp only [List.set]
      refine j_iinc C dX5_unevenOf_26 rfl ?_
      dsimp only [List.set]
      refine j_goto C (tgt := 4) dX5_unevenOf_29 (by decide) ?_
      refine j_cast (ih _ (by omega) (i + 1) rfl (by omega) (by omega)) ?_ rfl rfl
      rw [show (i + 1).toNat = i.toNat + 1 by omega, unv, show ((i.toNat : Nat) : Int) = i by omega]
      rfl
  refine j_iconst C dX5_unevenOf_0 ?_
  refine j_istore_n C dX5_unevenOf_1 (Nat.le_of_ble_eq_true rfl) ?_
  dsimp only [List.set]
  refine j_iconst C dX5_unevenOf_2 ?_
  refine j_istore_n C dX5_unevenOf_3 (Nat.le_of_ble_eq_true rfl) ?_
  dsimp only [List.set]
  exact lp _ 0 rfl (by omega) (by omega)
set_option maxHeartbeats 4000000 in
set_option maxRecDepth 100000 in
theorem ct_X2_isLawful {a b : Int} {g : AG} (h : LX g ∧ aR a ∧ aR b) : MetI yX2_isLawful wsX2_isLawful rmX2_isLawful ShW [.inr 8, .inl a, .inl b] g (fun x g' => g' = g ∧ (x = 0 ∨ x = 1) ∧ (x = 1 ↔ lawf (g 10) (g 8 2).toNat a b)) := by
  refine metI_of (cc := cX2_isLawful) (nL := 4) true (by decide +kernel) rfl (Nat.le_of_ble_eq_true rfl) (fun q J C => ?_)
  show J q ShW 0 0 0 [some (.inr 8), some (.inl a), some (.inl b), none] [] g
  refine j_wf C (fun hw => ?_)
  obtain ⟨hL, ha, hb⟩ := h
  have hn := hL.1
  have hS := hL.2.2.2.2.2.2
  have lp : ∀ k : Nat, ∀ (i : Int), (g 8 2 - i).toNat = k → 1 ≤ i → i ≤ g 8 2 → lawf (g 10) i.toNat a b → J q ShW 0 0 2 [some (.inr 8), some (.inl a), some (.inl b), some (.inl i)] [] g := by
    refine byN _ (fun k ih i hn2 h0 h1 hf => ?_)
    have s0 := hS i.toNat
    have s1 := hS (i - 1).toNat
    have s2 := hS (i - 2).toNat
    have e1 : i.toNat - 1 = (i - 1).toNat := by omega
    have e2 : i.toNat - 2 = (i - 2).toNat := by omega
    refine j_iload_n C dX2_isLawful_2 rfl ?_
    refine j_aload_n C dX2_isLawful_3 rfl ?_
    refine j_getI C fX2_isLawful_18 rfl rfl dX2_isLawful_4 ?_
    refine j_icmp_ge C (tgt := 80) dX2_isLawful_7 (by decide) (by first | omega | (refine ⟨?_, ?_⟩ <;> omega) | exact ha | exact hb | exact hw _ _) (by first | omega | (refine ⟨?_, ?_⟩ <;> omega) | exact ha | exact hb | exact hw _ _) (fun c_7 => ?_) (fun c_7 => ?_)
    · refine j_iconst C dX2_isLawful_80 ?_
      refine j_iretI C dX2_isLawful_81 (fun _ => by first | exact Or.inl rfl | exact Or.inr rfl | assumption | omega) (fun hw9 => ?_)
      refine ⟨rfl, Or.inr rfl, fun _ => ?_, fun _ => rfl⟩
      rw [show (g 8 2).toNat = i.toNat by omega]
      exact hf
    · refine j_aload_n C dX2_isLawful_10 rfl ?_
      refine j_getR C fX2_isLawful_15 rfl rfl dX2_isLawful_11 ?_
      refine j_iload_n C dX2_isLawful_14 rfl ?_
      refine j_iaload C rfl (by decide) dX2_isLawful_15 (by first | omega | (refine ⟨?_, ?_⟩ <;> omega) | exact ha | exact hb | exact hw _ _) (by first | omega | (refine ⟨?_, ?_⟩ <;> omega) | exact ha | exact hb | exact hw _ _) ?_
      refine j_aload_n C dX2_isLawful_16 rfl ?_
      refine j_getR C fX2_isLawful_15 rfl rfl dX2_isLawful_17 ?_
      refine j_iload_n C dX2_isLawful_20 rfl ?_
      refine j_iconst C dX2_isLawful_21 ?_
      refine j_isub C dX2_isLawful_22 ?_
      refine j_iaload C rfl (by decide) dX2_isLawful_23 (by first | omega | (refine ⟨?_, ?_⟩ <;> omega) | exact ha | exact hb | exact hw _ _) (by first | omega | (refine ⟨?_, ?_⟩ <;> omega) | exact ha | exact hb | exact hw _ _) ?_
      refine j_isub C dX2_isLawful_24 ?_
      refine j_mabs C vX2_isLawful_47 rfl (by refine ⟨?_, ?_, ?_, ?_⟩ <;> decide) dX2_isLawful_25 (by first | omega | (refine ⟨?_, ?_⟩ <;> omega) | exact ha | exact hb | exact hw _ _) (by first | omega | (refine ⟨?_, ?_⟩ <;> omega) | exact ha | exact hb | exact hw _ _) ?_
      refine j_iload_n C dX2_isLawful_28 rfl ?_
      refine j_icmp_le C (tgt := 34) dX2_isLawful_29 (by decide) (by first | omega | (refine ⟨?_, ?_⟩ <;> omega) | exact ha | exact hb | exact hw _ _) (by first | omega | (refine ⟨?_, ?_⟩ <;> omega) | exact ha | exact hb | exact hw _ _) (fun c_29 => ?_) (fun c_29 => ?_)
      · refine j_iload_n C dX2_isLawful_34 rfl ?_
        refine j_iconst C dX2_isLawful_35 ?_
        refine j_icmp_lt C (tgt := 74) dX2_isLawful_36 (by decide) (by first | omega | (refine ⟨?_, ?_⟩ <;> omega) | exact ha | exact hb | exact hw _ _) (by first | omega | (refine ⟨?_, ?_⟩ <;> omega) | exact ha | exact hb | exact hw _ _) (fun c_36 => ?_) (fun c_36 => ?_)
        · refine j_iinc C dX2_isLawful_74 rfl ?_
          dsimp only [List.set]
          refine j_goto C (tgt := 2) dX2_isLawful_77 (by decide) ?_
          refine ih _ (by omega) (i + 1) rfl (by omega) (by omega) (fun j hj => ?_)
          by_cases hji : j = i.toNat
          · subst hji
            refine ⟨fun _ => ?_, fun _ => ?_⟩
            · rw [e1]; omega
            · rw [e1, e2]; omega
          · exact hf j (by omega)
        · refine j_iconst C dX2_isLawful_39 ?_
          refine j_aload_n C dX2_isLawful_40 rfl ?_
          refine j_getR C fX2_isLawful_15 rfl rfl dX2_isLawful_41 ?_
          refine j_iload_n C dX2_isLawful_44 rfl ?_
          refine j_iconst C dX2_isLawful_45 ?_
          refine j_isub C dX2_isLawful_46 ?_
          refine j_iaload C rfl (by decide) dX2_isLawful_47 (by first | omega | (refine ⟨?_, ?_⟩ <;> omega) | exact ha | exact hb | exact hw _ _) (by first | omega | (refine ⟨?_, ?_⟩ <;> omega) | exact ha | exact hb | exact hw _ _) ?_
          refine j_imul C dX2_isLawful_48 ?_
          refine j_aload_n C dX2_isLawful_49 rfl ?_
          refine j_getR C fX2_isLawful_15 rfl rfl dX2_isLawful_50 ?_
          refine j_iload_n C dX2_isLawful_53 rfl ?_
          refine j_iconst C dX2_isLawful_54 ?_
          refine j_isub C dX2_isLawful_55 ?_
          refine j_iaload C rfl (by decide) dX2_isLawful_56 (by first | omega | (refine ⟨?_, ?_⟩ <;> omega) | exact ha | exact hb | exact hw _ _) (by first | omega | (refine ⟨?_, ?_⟩ <;> omega) | exact ha | exact hb | exact hw _ _) ?_
          refine j_isub C dX2_isLawful_57 ?_
          refine j_aload_n C dX2_isLawful_58 rfl ?_
          refine j_getR C fX2_isLawful_15 rfl rfl dX2_isLawful_59 ?_
          refine j_iload_n C dX2_isLawful_62 rfl ?_
          refine j_iaload C rfl (by decide) dX2_isLawful_63 (by first | omega | (refine ⟨?_, ?_⟩ <;> omega) | exact ha | exact hb | exact hw _ _) (by first | omega | (refine ⟨?_, ?_⟩ <;> omega) | exact ha | exact hb | exact hw _ _) ?_
          refine j_isub C dX2_isLawful_64 ?_
          refine j_mabs C vX2_isLawful_47 rfl (by refine ⟨?_, ?_, ?_, ?_⟩ <;> decide) dX2_isLawful_65 (by first | omega | (refine ⟨?_, ?_⟩ <;> omega) | exact ha | exact hb | exact hw _ _) (by first | omega | (refine ⟨?_, ?_⟩ <;> omega) | exact ha | exact hb | exact hw _ _) ?_
          refine j_iload_n C dX2_isLawful_68 rfl ?_
          refine j_icmp_le C (tgt := 74) dX2_isLawful_69 (by decide) (by first | omega | (refine ⟨?_, ?_⟩ <;> omega) | exact ha | exact hb | exact hw _ _) (by first | omega | (refine ⟨?_, ?_⟩ <;> omega) | exact ha | exact hb | exact hw _ _) (fun c_69 => ?_) (fun c_69 => ?_)
          · refine j_iinc C dX2_isLawful_74 rfl ?_
            dsimp only [List.set]
            refine j_goto C (tgt := 2) dX2_isLawful_77 (by decide) ?_
            refine ih _ (by omega) (i + 1) rfl (by omega) (by omega) (fun j hj => ?_)
            by_cases hji : j = i.toNat
            · subst hji
              refine ⟨fun _ => ?_, fun _ => ?_⟩
              · rw [e1]; omega
              · rw [e1, e2]; omega
            · exact hf j (by omega)
          · refine j_iconst C dX2_isLawful_72 ?_
            refine j_iretI C dX2_isLawful_73 (fun _ => by first | exact Or.inl rfl | exact Or.inr rfl | assumption | omega) (fun hw9 => ?_)
            refine ⟨rfl, Or.inl rfl, fun h => absurd h (by decide), fun h => ?_⟩
            have h9 := (h i.toNat (by omega)).2 (by omega)
            rw [e1, e2] at h9
            omega
      · refine j_iconst C dX2_isLawful_32 ?_
        refine j_iretI C dX2_isLawful_33 (fun _ => by first | exact Or.inl rfl | exact Or.inr rfl | assumption | omega) (fun hw9 => ?_)
        refine ⟨rfl, Or.inl rfl, fun h => absurd h (by decide), fun h => ?_⟩
        have h9 := (h i.toNat (by omega)).1 (by omega)
        rw [e1] at h9
        omega
  refine j_iconst C dX2_isLawful_0 ?_
  refine j_istore_n C dX2_isLawful_1 (Nat.le_of_ble_eq_true rfl) ?_
  dsimp only [List.set]
  exact lp _ 1 rfl (by omega) (by omega) (fun j hj => ⟨fun h => absurd hj (by simp; omega), fun h => absurd hj (by simp; omega)⟩)
set_option maxHeartbeats 4000000 in
set_option maxRecDepth 100000 in
theorem ct_X2_trySetting {p v : Int} {g : AG} (h : LX g ∧ 0 ≤ p ∧ p < g 8 2 ∧ -10 ≤ v ∧ v ≤ 10) : MetI yX2_trySetting wsX2_trySetting rmX2_trySetting ShW [.inr 8, .inl p, .inl v] g (fun x g' => (x = 0 ∨ x = 1) ∧ (x = 1 ↔ lawf (fun j => if j = p.toNat then v else g 10 j) (g 8 2).toNat (g 8 3) (g 8 4)) ∧ g' = (if x = 1 then aset g 10 p.toNat v else g)) := by
  refine metI_of (cc := cX2_trySetting) (nL := 4) true (by decide +kernel) rfl (Nat.le_of_ble_eq_true rfl) (fun q J C => ?_)
  show J q ShW 0 0 0 [some (.inr 8), some (.inl p), some (.inl v), none] [] g
  refine j_wf C (fun hw => ?_)
  obtain ⟨hL, h1, h2, h3, h4⟩ := h
  have hn := hL.1
  have hL2 := LX_set hL (j := p.toNat) h3 h4
  refine j_aload_n C dX2_trySetting_0 rfl ?_
  refine j_getR C fX2_trySetting_15 rfl rfl dX2_trySetting_1 ?_
  refine j_iload_n C dX2_trySetting_4 rfl ?_
  refine j_iaload C rfl (by decide) dX2_trySetting_5 (by first | omega | (refine ⟨?_, ?_⟩ <;> omega) | exact hw _ _ | exact nrm_R _) (by first | omega | (refine ⟨?_, ?_⟩ <;> omega) | exact hw _ _ | exact nrm_R _) ?_
  refine j_istore_n C dX2_trySetting_6 (Nat.le_of_ble_eq_true rfl) ?_
  dsimp only [List.set]
  refine j_aload_n C dX2_trySetting_7 rfl ?_
  refine j_getR C fX2_trySetting_15 rfl rfl dX2_trySetting_8 ?_
  refine j_iload_n C dX2_trySetting_11 rfl ?_
  refine j_iload_n C dX2_trySetting_12 rfl ?_
  refine j_iastore C rfl (by decide) dX2_trySetting_13 (by first | omega | (refine ⟨?_, ?_⟩ <;> omega) | exact hw _ _ | exact nrm_R _) (by first | omega | (refine ⟨?_, ?_⟩ <;> omega) | exact hw _ _ | exact nrm_R _) (by first | omega | (refine ⟨?_, ?_⟩ <;> omega) | exact hw _ _ | exact nrm_R _) ?_
  refine j_aload_n C dX2_trySetting_14 rfl ?_
  refine j_aload_n C dX2_trySetting_15 rfl ?_
  refine j_getI C fX2_trySetting_22 rfl rfl dX2_trySetting_16 ?_
  refine j_aload_n C dX2_trySetting_19 rfl ?_
  refine j_getI C fX2_trySetting_25 rfl rfl dX2_trySetting_20 ?_
  refine j_callVi2 C vX2_trySetting_43 rfl rfl (Nat.le_of_ble_eq_true rfl) ⟨Nat.zero_le _, Nat.zero_le _⟩ dX2_trySetting_23 (ct_X2_isLawful ⟨hL2, hw _ _, hw _ _⟩) (fun x_23 g_23 hk_23 => ?_)
  obtain ⟨e_23, hb_23, hi_23⟩ := hk_23
  have e_23 := e_23.symm
  subst e_23
  refine j_if_eq C (tgt := 31) dX2_trySetting_26 (by decide) (by first | omega | (refine ⟨?_, ?_⟩ <;> omega) | exact hw _ _ | exact nrm_R _) (fun c_26 => ?_) (fun c_26 => ?_)
  · refine j_aload_n C dX2_trySetting_31 rfl ?_
    refine j_getR C fX2_trySetting_15 rfl rfl dX2_trySetting_32 ?_
    refine j_iload_n C dX2_trySetting_35 rfl ?_
    refine j_iload_n C dX2_trySetting_36 rfl ?_
    refine j_iastore C rfl (by decide) dX2_trySetting_37 (by first | omega | (refine ⟨?_, ?_⟩ <;> omega) | exact hw _ _ | exact nrm_R _) (by first | omega | (refine ⟨?_, ?_⟩ <;> omega) | exact hw _ _ | exact nrm_R _) (by exact hw _ _) ?_
    refine j_iconst C dX2_trySetting_38 ?_
    refine j_iretI C dX2_trySetting_39 (fun _ => by first | exact Or.inl rfl | exact Or.inr rfl | assumption | omega) (fun hw9 => ?_)
    rw [aset_at] at hi_23
    exact ⟨Or.inl rfl, ⟨fun h => absurd h (by decide), fun h => absurd (hi_23.mpr h) (by omega)⟩, by rw [if_neg (by decide)]; exact aset_back rfl⟩
  · refine j_iconst C dX2_trySetting_29 ?_
    refine j_iretI C dX2_trySetting_30 (fun _ => by first | exact Or.inl rfl | exact Or.inr rfl | assumption | omega) (fun hw9 => ?_)
    rw [aset_at] at hi_23
    exact ⟨Or.inr rfl, ⟨fun _ => hi_23.mp (by omega), fun _ => rfl⟩, by rw [if_pos rfl]⟩
end
