section
-- ===== PART A: goes FIRST, ahead of the names: the tables' words, and 'selects' of the private methods out of them =====
/-- a private method of a class that the tables say can be made, by its rows of tables_1 -/
def lw_okq (q : MethodName × Nat) : Prop := (q.1.cls ≠ "java/lang/invoke/MethodHandle" ∧ q.1.cls ≠ "java/lang/invoke/VarHandle") ∧ Cond.instantiable q.1.cls q.2 ∈ tables_1 ∧ Cond.privateMethod q.1 ∈ tables_1 ∧ Cond.instanceMethod q.1 ∈ tables_1
theorem lw_p0 : lw_okq (⟨"BroadSheet", "isPlace", "(I)Z"⟩, 4) := ⟨⟨by decide +kernel, by decide +kernel⟩, List.mem_of_getElem? (i := 10) (by decide +kernel), List.mem_of_getElem? (i := 174) (by decide +kernel), List.mem_of_getElem? (i := 175) (by decide +kernel)⟩
theorem lw_p1 : lw_okq (⟨"BroadSheet$Eye", "fit", "(III)Z"⟩, 8) := ⟨⟨by decide +kernel, by decide +kernel⟩, List.mem_of_getElem? (i := 18) (by decide +kernel), List.mem_of_getElem? (i := 192) (by decide +kernel), List.mem_of_getElem? (i := 193) (by decide +kernel)⟩
theorem lw_p2 : lw_okq (⟨"BroadSheet$Eye", "isFirstOfGroup", "(I)Z"⟩, 8) := ⟨⟨by decide +kernel, by decide +kernel⟩, List.mem_of_getElem? (i := 18) (by decide +kernel), List.mem_of_getElem? (i := 251) (by decide +kernel), List.mem_of_getElem? (i := 252) (by decide +kernel)⟩
theorem lw_p3 : lw_okq (⟨"BroadSheet$Lips", "weighLast", "()V"⟩, 8) := ⟨⟨by decide +kernel, by decide +kernel⟩, List.mem_of_getElem? (i := 55) (by decide +kernel), List.mem_of_getElem? (i := 346) (by decide +kernel), List.mem_of_getElem? (i := 347) (by decide +kernel)⟩
theorem lw_p4 : lw_okq (⟨"BroadSheet$Lips", "weigh", "(IZ)V"⟩, 8) := ⟨⟨by decide +kernel, by decide +kernel⟩, List.mem_of_getElem? (i := 55) (by decide +kernel), List.mem_of_getElem? (i := 353) (by decide +kernel), List.mem_of_getElem? (i := 354) (by decide +kernel)⟩
theorem lw_p5 : lw_okq (⟨"BroadSheet$Lips", "leastRest", "(IIIZ)I"⟩, 8) := ⟨⟨by decide +kernel, by decide +kernel⟩, List.mem_of_getElem? (i := 55) (by decide +kernel), List.mem_of_getElem? (i := 360) (by decide +kernel), List.mem_of_getElem? (i := 361) (by decide +kernel)⟩
theorem lw_p6 : lw_okq (⟨"BroadSheet$Lips", "highestAfter", "(II)I"⟩, 8) := ⟨⟨by decide +kernel, by decide +kernel⟩, List.mem_of_getElem? (i := 55) (by decide +kernel), List.mem_of_getElem? (i := 365) (by decide +kernel), List.mem_of_getElem? (i := 366) (by decide +kernel)⟩
theorem lw_p7 : lw_okq (⟨"BroadSheet$Lips", "lowestAfter", "(II)I"⟩, 8) := ⟨⟨by decide +kernel, by decide +kernel⟩, List.mem_of_getElem? (i := 55) (by decide +kernel), List.mem_of_getElem? (i := 369) (by decide +kernel), List.mem_of_getElem? (i := 370) (by decide +kernel)⟩
theorem lw_p8 : lw_okq (⟨"BroadSheet$Lips", "settleFirstTwo", "(Z)I"⟩, 8) := ⟨⟨by decide +kernel, by decide +kernel⟩, List.mem_of_getElem? (i := 55) (by decide +kernel), List.mem_of_getElem? (i := 373) (by decide +kernel), List.mem_of_getElem? (i := 374) (by decide +kernel)⟩
theorem lw_p9 : lw_okq (⟨"BroadSheet$Lips", "lesserAfter", "(IIIZ)I"⟩, 8) := ⟨⟨by decide +kernel, by decide +kernel⟩, List.mem_of_getElem? (i := 55) (by decide +kernel), List.mem_of_getElem? (i := 377) (by decide +kernel), List.mem_of_getElem? (i := 378) (by decide +kernel)⟩
theorem lw_p10 : lw_okq (⟨"BroadSheet$Sets", "weigh", "(I)V"⟩, 7) := ⟨⟨by decide +kernel, by decide +kernel⟩, List.mem_of_getElem? (i := 86) (by decide +kernel), List.mem_of_getElem? (i := 411) (by decide +kernel), List.mem_of_getElem? (i := 412) (by decide +kernel)⟩
theorem lw_p11 : lw_okq (⟨"BroadSheet$Sets", "dropCovered", "(I)V"⟩, 7) := ⟨⟨by decide +kernel, by decide +kernel⟩, List.mem_of_getElem? (i := 86) (by decide +kernel), List.mem_of_getElem? (i := 416) (by decide +kernel), List.mem_of_getElem? (i := 417) (by decide +kernel)⟩
theorem lw_p12 : lw_okq (⟨"BroadSheet", "isGrade", "(I)Z"⟩, 4) := ⟨⟨by decide +kernel, by decide +kernel⟩, List.mem_of_getElem? (i := 10) (by decide +kernel), List.mem_of_getElem? (i := 444) (by decide +kernel), List.mem_of_getElem? (i := 445) (by decide +kernel)⟩
theorem lw_p13 : lw_okq (⟨"BroadSheet$Grades", "costOf", "(II)I"⟩, 4) := ⟨⟨by decide +kernel, by decide +kernel⟩, List.mem_of_getElem? (i := 114) (by decide +kernel), List.mem_of_getElem? (i := 452) (by decide +kernel), List.mem_of_getElem? (i := 453) (by decide +kernel)⟩
theorem lw_p14 : lw_okq (⟨"BroadSheet$Grades", "weighAll", "()V"⟩, 4) := ⟨⟨by decide +kernel, by decide +kernel⟩, List.mem_of_getElem? (i := 114) (by decide +kernel), List.mem_of_getElem? (i := 464) (by decide +kernel), List.mem_of_getElem? (i := 465) (by decide +kernel)⟩
theorem lw_p15 : lw_okq (⟨"BroadSheet$Grades", "lesserStep", "(II)I"⟩, 4) := ⟨⟨by decide +kernel, by decide +kernel⟩, List.mem_of_getElem? (i := 114) (by decide +kernel), List.mem_of_getElem? (i := 471) (by decide +kernel), List.mem_of_getElem? (i := 472) (by decide +kernel)⟩
def lw_privs_1 : List (MethodName × Nat) := [(⟨"BroadSheet", "isPlace", "(I)Z"⟩, 4), (⟨"BroadSheet$Eye", "fit", "(III)Z"⟩, 8), (⟨"BroadSheet$Eye", "isFirstOfGroup", "(I)Z"⟩, 8), (⟨"BroadSheet$Lips", "weighLast", "()V"⟩, 8), (⟨"BroadSheet$Lips", "weigh", "(IZ)V"⟩, 8), (⟨"BroadSheet$Lips", "leastRest", "(IIIZ)I"⟩, 8), (⟨"BroadSheet$Lips", "highestAfter", "(II)I"⟩, 8), (⟨"BroadSheet$Lips", "lowestAfter", "(II)I"⟩, 8), (⟨"BroadSheet$Lips", "settleFirstTwo", "(Z)I"⟩, 8), (⟨"BroadSheet$Lips", "lesserAfter", "(IIIZ)I"⟩, 8), (⟨"BroadSheet$Sets", "weigh", "(I)V"⟩, 7), (⟨"BroadSheet$Sets", "dropCovered", "(I)V"⟩, 7), (⟨"BroadSheet", "isGrade", "(I)Z"⟩, 4), (⟨"BroadSheet$Grades", "costOf", "(II)I"⟩, 4), (⟨"BroadSheet$Grades", "weighAll", "()V"⟩, 4), (⟨"BroadSheet$Grades", "lesserStep", "(II)I"⟩, 4)]
theorem lw_r1 : ∀ q ∈ lw_privs_1, lw_okq q := List.forall_mem_cons.mpr ⟨lw_p0, List.forall_mem_cons.mpr ⟨lw_p1, List.forall_mem_cons.mpr ⟨lw_p2, List.forall_mem_cons.mpr ⟨lw_p3, List.forall_mem_cons.mpr ⟨lw_p4, List.forall_mem_cons.mpr ⟨lw_p5, List.forall_mem_cons.mpr ⟨lw_p6, List.forall_mem_cons.mpr ⟨lw_p7, List.forall_mem_cons.mpr ⟨lw_p8, List.forall_mem_cons.mpr ⟨lw_p9, List.forall_mem_cons.mpr ⟨lw_p10, List.forall_mem_cons.mpr ⟨lw_p11, List.forall_mem_cons.mpr ⟨lw_p12, List.forall_mem_cons.mpr ⟨lw_p13, List.forall_mem_cons.mpr ⟨lw_p14, List.forall_mem_cons.mpr ⟨lw_p15, fun _ h => absurd h List.not_mem_nil⟩⟩⟩⟩⟩⟩⟩⟩⟩⟩⟩⟩⟩⟩⟩⟩
theorem lw_p16 : lw_okq (⟨"BroadSheet$Grades", "throughStep", "(III)I"⟩, 4) := ⟨⟨by decide +kernel, by decide +kernel⟩, List.mem_of_getElem? (i := 114) (by decide +kernel), List.mem_of_getElem? (i := 476) (by decide +kernel), List.mem_of_getElem? (i := 477) (by decide +kernel)⟩
theorem lw_p17 : lw_okq (⟨"BroadSheet$Grades", "restOf", "(II)I"⟩, 4) := ⟨⟨by decide +kernel, by decide +kernel⟩, List.mem_of_getElem? (i := 114) (by decide +kernel), List.mem_of_getElem? (i := 483) (by decide +kernel), List.mem_of_getElem? (i := 484) (by decide +kernel)⟩
theorem lw_p18 : lw_okq (⟨"BroadSheet$Grades", "allBut", "(I)I"⟩, 4) := ⟨⟨by decide +kernel, by decide +kernel⟩, List.mem_of_getElem? (i := 114) (by decide +kernel), List.mem_of_getElem? (i := 487) (by decide +kernel), List.mem_of_getElem? (i := 488) (by decide +kernel)⟩
theorem lw_p19 : lw_okq (⟨"BroadSheetModel", "begin", "()V"⟩, 24) := ⟨⟨by decide +kernel, by decide +kernel⟩, List.mem_of_getElem? (i := 523) (by decide +kernel), List.mem_of_getElem? (i := 529) (by decide +kernel), List.mem_of_getElem? (i := 530) (by decide +kernel)⟩
theorem lw_p20 : lw_okq (⟨"BroadSheetModel", "isPlace", "(I)Z"⟩, 24) := ⟨⟨by decide +kernel, by decide +kernel⟩, List.mem_of_getElem? (i := 523) (by decide +kernel), List.mem_of_getElem? (i := 617) (by decide +kernel), List.mem_of_getElem? (i := 618) (by decide +kernel)⟩
theorem lw_p21 : lw_okq (⟨"BroadSheetModel", "isAcross", "(I)Z"⟩, 24) := ⟨⟨by decide +kernel, by decide +kernel⟩, List.mem_of_getElem? (i := 523) (by decide +kernel), List.mem_of_getElem? (i := 631) (by decide +kernel), List.mem_of_getElem? (i := 632) (by decide +kernel)⟩
theorem lw_p22 : lw_okq (⟨"BroadSheetModel", "acrossOf", "(I)I"⟩, 24) := ⟨⟨by decide +kernel, by decide +kernel⟩, List.mem_of_getElem? (i := 523) (by decide +kernel), List.mem_of_getElem? (i := 635) (by decide +kernel), List.mem_of_getElem? (i := 636) (by decide +kernel)⟩
theorem lw_p23 : lw_okq (⟨"BroadSheetModel", "areLawful", "(II)Z"⟩, 24) := ⟨⟨by decide +kernel, by decide +kernel⟩, List.mem_of_getElem? (i := 523) (by decide +kernel), List.mem_of_getElem? (i := 660) (by decide +kernel), List.mem_of_getElem? (i := 661) (by decide +kernel)⟩
theorem lw_p24 : lw_okq (⟨"BroadSheetModel", "error", "(I)I"⟩, 24) := ⟨⟨by decide +kernel, by decide +kernel⟩, List.mem_of_getElem? (i := 523) (by decide +kernel), List.mem_of_getElem? (i := 683) (by decide +kernel), List.mem_of_getElem? (i := 684) (by decide +kernel)⟩
theorem lw_p25 : lw_okq (⟨"BroadSheetModel", "unevenOf", "(I)I"⟩, 24) := ⟨⟨by decide +kernel, by decide +kernel⟩, List.mem_of_getElem? (i := 523) (by decide +kernel), List.mem_of_getElem? (i := 691) (by decide +kernel), List.mem_of_getElem? (i := 692) (by decide +kernel)⟩
theorem lw_p26 : lw_okq (⟨"BroadSheetModel", "layLeast", "(I)V"⟩, 24) := ⟨⟨by decide +kernel, by decide +kernel⟩, List.mem_of_getElem? (i := 523) (by decide +kernel), List.mem_of_getElem? (i := 702) (by decide +kernel), List.mem_of_getElem? (i := 703) (by decide +kernel)⟩
theorem lw_p27 : lw_okq (⟨"BroadSheetModel", "goes", "(IIII)Z"⟩, 24) := ⟨⟨by decide +kernel, by decide +kernel⟩, List.mem_of_getElem? (i := 523) (by decide +kernel), List.mem_of_getElem? (i := 706) (by decide +kernel), List.mem_of_getElem? (i := 707) (by decide +kernel)⟩
theorem lw_p28 : lw_okq (⟨"BroadSheetModel", "lies", "(II)Z"⟩, 24) := ⟨⟨by decide +kernel, by decide +kernel⟩, List.mem_of_getElem? (i := 523) (by decide +kernel), List.mem_of_getElem? (i := 718) (by decide +kernel), List.mem_of_getElem? (i := 719) (by decide +kernel)⟩
theorem lw_p29 : lw_okq (⟨"BroadSheetModel", "layCut", "()V"⟩, 24) := ⟨⟨by decide +kernel, by decide +kernel⟩, List.mem_of_getElem? (i := 523) (by decide +kernel), List.mem_of_getElem? (i := 726) (by decide +kernel), List.mem_of_getElem? (i := 727) (by decide +kernel)⟩
theorem lw_p30 : lw_okq (⟨"BroadSheetModel", "isGrade", "(I)Z"⟩, 24) := ⟨⟨by decide +kernel, by decide +kernel⟩, List.mem_of_getElem? (i := 523) (by decide +kernel), List.mem_of_getElem? (i := 742) (by decide +kernel), List.mem_of_getElem? (i := 743) (by decide +kernel)⟩
theorem lw_p31 : lw_okq (⟨"BroadSheetModel", "layRest", "()V"⟩, 24) := ⟨⟨by decide +kernel, by decide +kernel⟩, List.mem_of_getElem? (i := 523) (by decide +kernel), List.mem_of_getElem? (i := 750) (by decide +kernel), List.mem_of_getElem? (i := 751) (by decide +kernel)⟩
def lw_privs_2 : List (MethodName × Nat) := [(⟨"BroadSheet$Grades", "throughStep", "(III)I"⟩, 4), (⟨"BroadSheet$Grades", "restOf", "(II)I"⟩, 4), (⟨"BroadSheet$Grades", "allBut", "(I)I"⟩, 4), (⟨"BroadSheetModel", "begin", "()V"⟩, 24), (⟨"BroadSheetModel", "isPlace", "(I)Z"⟩, 24), (⟨"BroadSheetModel", "isAcross", "(I)Z"⟩, 24), (⟨"BroadSheetModel", "acrossOf", "(I)I"⟩, 24), (⟨"BroadSheetModel", "areLawful", "(II)Z"⟩, 24), (⟨"BroadSheetModel", "error", "(I)I"⟩, 24), (⟨"BroadSheetModel", "unevenOf", "(I)I"⟩, 24), (⟨"BroadSheetModel", "layLeast", "(I)V"⟩, 24), (⟨"BroadSheetModel", "goes", "(IIII)Z"⟩, 24), (⟨"BroadSheetModel", "lies", "(II)Z"⟩, 24), (⟨"BroadSheetModel", "layCut", "()V"⟩, 24), (⟨"BroadSheetModel", "isGrade", "(I)Z"⟩, 24), (⟨"BroadSheetModel", "layRest", "()V"⟩, 24)]
theorem lw_r2 : ∀ q ∈ lw_privs_2, lw_okq q := List.forall_mem_cons.mpr ⟨lw_p16, List.forall_mem_cons.mpr ⟨lw_p17, List.forall_mem_cons.mpr ⟨lw_p18, List.forall_mem_cons.mpr ⟨lw_p19, List.forall_mem_cons.mpr ⟨lw_p20, List.forall_mem_cons.mpr ⟨lw_p21, List.forall_mem_cons.mpr ⟨lw_p22, List.forall_mem_cons.mpr ⟨lw_p23, List.forall_mem_cons.mpr ⟨lw_p24, List.forall_mem_cons.mpr ⟨lw_p25, List.forall_mem_cons.mpr ⟨lw_p26, List.forall_mem_cons.mpr ⟨lw_p27, List.forall_mem_cons.mpr ⟨lw_p28, List.forall_mem_cons.mpr ⟨lw_p29, List.forall_mem_cons.mpr ⟨lw_p30, List.forall_mem_cons.mpr ⟨lw_p31, fun _ h => absurd h List.not_mem_nil⟩⟩⟩⟩⟩⟩⟩⟩⟩⟩⟩⟩⟩⟩⟩⟩
theorem lw_p32 : lw_okq (⟨"BroadSheetModel", "fitting", "()I"⟩, 24) := ⟨⟨by decide +kernel, by decide +kernel⟩, List.mem_of_getElem? (i := 523) (by decide +kernel), List.mem_of_getElem? (i := 762) (by decide +kernel), List.mem_of_getElem? (i := 763) (by decide +kernel)⟩
def lw_privs_3 : List (MethodName × Nat) := [(⟨"BroadSheetModel", "fitting", "()I"⟩, 24)]
theorem lw_r3 : ∀ q ∈ lw_privs_3, lw_okq q := List.forall_mem_cons.mpr ⟨lw_p32, fun _ h => absurd h List.not_mem_nil⟩
def lw_privs : List (MethodName × Nat) := lw_privs_1 ++ (lw_privs_2 ++ (lw_privs_3))
def lw_tbl : List Cond := k2_sels lw_privs ++ tables_1
theorem lw_privs_ok : ∀ q ∈ lw_privs, lw_okq q := by
  show ∀ q ∈ lw_privs_1 ++ (lw_privs_2 ++ (lw_privs_3)), lw_okq q
  exact List.forall_mem_append.mpr ⟨lw_r1, List.forall_mem_append.mpr ⟨lw_r2, lw_r3⟩⟩
end
section
/-! ===== BEGIN words of one list among another's, by their places ===== -/
theorem goodIn_r {big : List Cond} (ws : List Cond) (ps : List Nat) (hp : ws = ps.filterMap (fun i => big[i]?)) (h : ws.all goodWord = true) : GoodIn big ws := by
  intro w hw
  have h1 := List.all_eq_true.mp h w hw
  rw [hp] at hw
  obtain ⟨i, -, hi⟩ := List.mem_filterMap.mp hw
  have hm : w ∈ big := by first | exact List.mem_of_getElem? hi | exact List.getElem?_mem hi
  exact ⟨hm, good_of_word h1⟩
theorem goodIn_app {big a b : List Cond} (ha : GoodIn big a) (hb : GoodIn big b) : GoodIn big (a ++ b) := fun w h => (List.mem_append.mp h).elim (ha w) (hb w)
theorem goodIn_ca {big a b : List Cond} {c : Cond} (ha : GoodIn big (c :: a)) (hb : GoodIn big b) : GoodIn big (c :: (a ++ b)) := fun w h => (List.mem_cons.mp h).elim (fun e => ha w (List.mem_cons.mpr (Or.inl e))) (fun h => (List.mem_append.mp h).elim (fun h => ha w (List.mem_cons.mpr (Or.inr h))) (hb w))
theorem goodIn_sub {big ws : List Cond} (hm : ∀ w ∈ ws, w ∈ big) (h : ws.all goodWord = true) : GoodIn big ws := fun w hw => ⟨hm w hw, good_of_word (List.all_eq_true.mp h w hw)⟩
/-! ===== END ===== -/

/-! ===== BEGIN printed: names, fields, word lists, decode rows ===== -/
def RX0 : String := "BroadSheet$Eye"
def TX0 : u_T := fun k => match k with
  | 0 => ("BroadSheet$Eye", "times", "[I", true)
  | 1 => ("BroadSheet$Eye", "places", "[I", true)
  | 2 => ("BroadSheet$Eye", "values", "[I", true)
  | 3 => ("BroadSheet$Eye", "fitting", "[Z", true)
  | 4 => ("BroadSheet$Eye", "count", "I", false)
  | 5 => ("BroadSheet$Eye", "fittingCount", "I", false)
  | 6 => ("BroadSheet$Eye", "group", "[I", true)
  | _ => ("BroadSheet$Eye", "height", "[I", true)
def tyX0 : Nat → FieldType := fun k => match k with
  | 0 => .array .int
  | 1 => .array .int
  | 2 => .array .int
  | 3 => .array .boolean
  | 4 => .int
  | 5 => .int
  | 6 => .array .int
  | _ => .array .int
abbrev wsX00 : List Cond := u_ws RX0 TX0 8
theorem nmX0 : ∀ a, a < 8 → ∀ b, b < 8 → a ≠ b → (TX0 a).2.1 ≠ (TX0 b).2.1 := by decide +kernel
theorem tyX0_ok : ∀ k, k < 8 → parseFieldDescriptor (TX0 k).2.2.1 = some (tyX0 k) := by decide +kernel
abbrev cX0_init : ByteArray := prog_2_method_1_code
def yX0_init : MethodName := ⟨RX0, "<init>", "()V"⟩
abbrev cX0_forget : ByteArray := prog_2_method_2_code
def yX0_forget : MethodName := ⟨RX0, "forget", "()V"⟩
abbrev cX0_add : ByteArray := prog_2_method_3_code
def yX0_add : MethodName := ⟨RX0, "add", "(III)Z"⟩
abbrev cX0_fit : ByteArray := prog_2_method_4_code
def yX0_fit : MethodName := ⟨RX0, "fit", "(III)Z"⟩
abbrev cX0_knotOfTime : ByteArray := prog_2_method_5_code
def yX0_knotOfTime : MethodName := ⟨RX0, "knotOfTime", "(I)I"⟩
abbrev cX0_count : ByteArray := prog_2_method_6_code
def yX0_count : MethodName := ⟨RX0, "count", "()I"⟩
abbrev cX0_fittingCount : ByteArray := prog_2_method_7_code
def yX0_fittingCount : MethodName := ⟨RX0, "fittingCount", "()I"⟩
abbrev cX0_timeOf : ByteArray := prog_2_method_8_code
def yX0_timeOf : MethodName := ⟨RX0, "timeOf", "(I)I"⟩
abbrev cX0_placeOf : ByteArray := prog_2_method_9_code
def yX0_placeOf : MethodName := ⟨RX0, "placeOf", "(I)I"⟩
abbrev cX0_valueOf : ByteArray := prog_2_method_10_code
def yX0_valueOf : MethodName := ⟨RX0, "valueOf", "(I)I"⟩
abbrev cX0_isFitting : ByteArray := prog_2_method_11_code
def yX0_isFitting : MethodName := ⟨RX0, "isFitting", "(I)Z"⟩
abbrev cX0_hasAcross : ByteArray := prog_2_method_12_code
def yX0_hasAcross : MethodName := ⟨RX0, "hasAcross", "(I)Z"⟩
abbrev cX0_acrossOf : ByteArray := prog_2_method_13_code
def yX0_acrossOf : MethodName := ⟨RX0, "acrossOf", "(I)I"⟩
abbrev cX0_timesHangTogether : ByteArray := prog_2_method_14_code
def yX0_timesHangTogether : MethodName := ⟨RX0, "timesHangTogether", "(II)Z"⟩
abbrev cX0_moreAlong : ByteArray := prog_2_method_15_code
def yX0_moreAlong : MethodName := ⟨RX0, "moreAlong", "(II)I"⟩
abbrev cX0_countGroups : ByteArray := prog_2_method_16_code
def yX0_countGroups : MethodName := ⟨RX0, "countGroups", "(I)I"⟩
abbrev cX0_isFirstOfGroup : ByteArray := prog_2_method_17_code
def yX0_isFirstOfGroup : MethodName := ⟨RX0, "isFirstOfGroup", "(I)Z"⟩
def RX1 : String := "BroadSheet$Grades"
def TX1 : u_T := fun k => match k with
  | 0 => ("BroadSheet$Grades", "count", "I", false)
  | 1 => ("BroadSheet$Grades", "costs", "[I", true)
  | 2 => ("BroadSheet$Grades", "rest", "[I", true)
  | _ => ("BroadSheet$Grades", "weighed", "Z", false)
def tyX1 : Nat → FieldType := fun k => match k with
  | 0 => .int
  | 1 => .array .int
  | 2 => .array .int
  | _ => .boolean
abbrev wsX10 : List Cond := u_ws RX1 TX1 4
theorem nmX1 : ∀ a, a < 4 → ∀ b, b < 4 → a ≠ b → (TX1 a).2.1 ≠ (TX1 b).2.1 := by decide +kernel
theorem tyX1_ok : ∀ k, k < 4 → parseFieldDescriptor (TX1 k).2.2.1 = some (tyX1 k) := by decide +kernel
abbrev cX1_init : ByteArray := prog_3_method_1_code
def yX1_init : MethodName := ⟨RX1, "<init>", "()V"⟩
abbrev cX1_count : ByteArray := prog_3_method_2_code
def yX1_count : MethodName := ⟨RX1, "count", "()I"⟩
abbrev cX1_add : ByteArray := prog_3_method_3_code
def yX1_add : MethodName := ⟨RX1, "add", "()I"⟩
abbrev cX1_putCost : ByteArray := prog_3_method_4_code
def yX1_putCost : MethodName := ⟨RX1, "putCost", "(III)I"⟩
abbrev cX1_costOf : ByteArray := prog_3_method_5_code
def yX1_costOf : MethodName := ⟨RX1, "costOf", "(II)I"⟩
abbrev cX1_leastCosts : ByteArray := prog_3_method_6_code
def yX1_leastCosts : MethodName := ⟨RX1, "leastCosts", "(I)I"⟩
abbrev cX1_stepOf : ByteArray := prog_3_method_7_code
def yX1_stepOf : MethodName := ⟨RX1, "stepOf", "(II)I"⟩
abbrev cX1_allBut : ByteArray := prog_3_method_8_code
def yX1_allBut : MethodName := ⟨RX1, "allBut", "(I)I"⟩
abbrev cX1_without : ByteArray := prog_3_method_9_code
def yX1_without : MethodName := ⟨RX1, "without", "(II)I"⟩
abbrev cX1_has : ByteArray := prog_3_method_10_code
def yX1_has : MethodName := ⟨RX1, "has", "(II)Z"⟩
abbrev cX1_restOf : ByteArray := prog_3_method_11_code
def yX1_restOf : MethodName := ⟨RX1, "restOf", "(II)I"⟩
abbrev cX1_weighAll : ByteArray := prog_3_method_12_code
def yX1_weighAll : MethodName := ⟨RX1, "weighAll", "()V"⟩
abbrev cX1_throughStep : ByteArray := prog_3_method_13_code
def yX1_throughStep : MethodName := ⟨RX1, "throughStep", "(III)I"⟩
abbrev cX1_lesserStep : ByteArray := prog_3_method_14_code
def yX1_lesserStep : MethodName := ⟨RX1, "lesserStep", "(II)I"⟩
def RX2 : String := "BroadSheet$Lips"
def TX2 : u_T := fun k => match k with
  | 0 => ("BroadSheet$Lips", "bases", "[I", true)
  | 1 => ("BroadSheet$Lips", "settings", "[I", true)
  | 2 => ("BroadSheet$Lips", "places", "I", false)
  | 3 => ("BroadSheet$Lips", "next", "I", false)
  | 4 => ("BroadSheet$Lips", "bend", "I", false)
  | 5 => ("BroadSheet$Lips", "main", "I", false)
  | 6 => ("BroadSheet$Lips", "side", "I", false)
  | _ => ("BroadSheet$Lips", "rest", "[I", true)
def tyX2 : Nat → FieldType := fun k => match k with
  | 0 => .array .int
  | 1 => .array .int
  | 2 => .int
  | 3 => .int
  | 4 => .int
  | 5 => .int
  | 6 => .int
  | _ => .array .int
abbrev wsX20 : List Cond := u_ws RX2 TX2 8
theorem nmX2 : ∀ a, a < 8 → ∀ b, b < 8 → a ≠ b → (TX2 a).2.1 ≠ (TX2 b).2.1 := by decide +kernel
theorem tyX2_ok : ∀ k, k < 8 → parseFieldDescriptor (TX2 k).2.2.1 = some (tyX2 k) := by decide +kernel
abbrev cX2_init : ByteArray := prog_4_method_1_code
def yX2_init : MethodName := ⟨RX2, "<init>", "()V"⟩
abbrev cX2_renew : ByteArray := prog_4_method_2_code
def yX2_renew : MethodName := ⟨RX2, "renew", "(I)V"⟩
abbrev cX2_places : ByteArray := prog_4_method_3_code
def yX2_places : MethodName := ⟨RX2, "places", "()I"⟩
abbrev cX2_nextLaw : ByteArray := prog_4_method_4_code
def yX2_nextLaw : MethodName := ⟨RX2, "nextLaw", "()I"⟩
abbrev cX2_bendLaw : ByteArray := prog_4_method_5_code
def yX2_bendLaw : MethodName := ⟨RX2, "bendLaw", "()I"⟩
abbrev cX2_mainSpread : ByteArray := prog_4_method_6_code
def yX2_mainSpread : MethodName := ⟨RX2, "mainSpread", "()I"⟩
abbrev cX2_sideSpread : ByteArray := prog_4_method_7_code
def yX2_sideSpread : MethodName := ⟨RX2, "sideSpread", "()I"⟩
abbrev cX2_baseOf : ByteArray := prog_4_method_8_code
def yX2_baseOf : MethodName := ⟨RX2, "baseOf", "(I)I"⟩
abbrev cX2_settingOf : ByteArray := prog_4_method_9_code
def yX2_settingOf : MethodName := ⟨RX2, "settingOf", "(I)I"⟩
abbrev cX2_putLaws : ByteArray := prog_4_method_10_code
def yX2_putLaws : MethodName := ⟨RX2, "putLaws", "(II)V"⟩
abbrev cX2_putSpread : ByteArray := prog_4_method_11_code
def yX2_putSpread : MethodName := ⟨RX2, "putSpread", "(II)V"⟩
abbrev cX2_putBase : ByteArray := prog_4_method_12_code
def yX2_putBase : MethodName := ⟨RX2, "putBase", "(II)V"⟩
abbrev cX2_trySetting : ByteArray := prog_4_method_13_code
def yX2_trySetting : MethodName := ⟨RX2, "trySetting", "(II)Z"⟩
abbrev cX2_isLawful : ByteArray := prog_4_method_14_code
def yX2_isLawful : MethodName := ⟨RX2, "isLawful", "(II)Z"⟩
abbrev cX2_errorOf : ByteArray := prog_4_method_15_code
def yX2_errorOf : MethodName := ⟨RX2, "errorOf", "(I)I"⟩
abbrev cX2_sizeOf : ByteArray := prog_4_method_16_code
def yX2_sizeOf : MethodName := ⟨RX2, "sizeOf", "(I)I"⟩
abbrev cX2_unevenness : ByteArray := prog_4_method_17_code
def yX2_unevenness : MethodName := ⟨RX2, "unevenness", "(Z)I"⟩
abbrev cX2_together : ByteArray := prog_4_method_18_code
def yX2_together : MethodName := ⟨RX2, "together", "(IIZ)I"⟩
abbrev cX2_settle : ByteArray := prog_4_method_19_code
def yX2_settle : MethodName := ⟨RX2, "settle", "(Z)I"⟩
abbrev cX2_weighLast : ByteArray := prog_4_method_20_code
def yX2_weighLast : MethodName := ⟨RX2, "weighLast", "()V"⟩
abbrev cX2_weigh : ByteArray := prog_4_method_21_code
def yX2_weigh : MethodName := ⟨RX2, "weigh", "(IZ)V"⟩
abbrev cX2_leastRest : ByteArray := prog_4_method_22_code
def yX2_leastRest : MethodName := ⟨RX2, "leastRest", "(IIIZ)I"⟩
abbrev cX2_settleFirstTwo : ByteArray := prog_4_method_23_code
def yX2_settleFirstTwo : MethodName := ⟨RX2, "settleFirstTwo", "(Z)I"⟩
abbrev cX2_lesserAfter : ByteArray := prog_4_method_24_code
def yX2_lesserAfter : MethodName := ⟨RX2, "lesserAfter", "(IIIZ)I"⟩
abbrev cX2_lowestAfter : ByteArray := prog_4_method_25_code
def yX2_lowestAfter : MethodName := ⟨RX2, "lowestAfter", "(II)I"⟩
abbrev cX2_highestAfter : ByteArray := prog_4_method_26_code
def yX2_highestAfter : MethodName := ⟨RX2, "highestAfter", "(II)I"⟩
abbrev cX2_spot : ByteArray := prog_4_method_27_code
def yX2_spot : MethodName := ⟨RX2, "spot", "(III)I"⟩
def RX3 : String := "BroadSheet$Sets"
def TX3 : u_T := fun k => match k with
  | 0 => ("BroadSheet$Sets", "lips", "LBroadSheet$Lips;", true)
  | 1 => ("BroadSheet$Sets", "widths", "[I", true)
  | 2 => ("BroadSheet$Sets", "prices", "[I", true)
  | 3 => ("BroadSheet$Sets", "bounds", "[I", true)
  | 4 => ("BroadSheet$Sets", "count", "I", false)
  | 5 => ("BroadSheet$Sets", "worth", "[I", true)
  | _ => ("BroadSheet$Sets", "begins", "[I", true)
def tyX3 : Nat → FieldType := fun k => match k with
  | 0 => .object "BroadSheet$Lips"
  | 1 => .array .int
  | 2 => .array .int
  | 3 => .array .int
  | 4 => .int
  | 5 => .array .int
  | _ => .array .int
abbrev wsX30 : List Cond := u_ws RX3 TX3 7
theorem nmX3 : ∀ a, a < 7 → ∀ b, b < 7 → a ≠ b → (TX3 a).2.1 ≠ (TX3 b).2.1 := by decide +kernel
theorem tyX3_ok : ∀ k, k < 7 → parseFieldDescriptor (TX3 k).2.2.1 = some (tyX3 k) := by decide +kernel
abbrev cX3_init : ByteArray := prog_5_method_1_code
def yX3_init : MethodName := ⟨RX3, "<init>", "(LBroadSheet$Lips;)V"⟩
abbrev cX3_forget : ByteArray := prog_5_method_2_code
def yX3_forget : MethodName := ⟨RX3, "forget", "()V"⟩
abbrev cX3_count : ByteArray := prog_5_method_3_code
def yX3_count : MethodName := ⟨RX3, "count", "()I"⟩
abbrev cX3_add : ByteArray := prog_5_method_4_code
def yX3_add : MethodName := ⟨RX3, "add", "(III)I"⟩
abbrev cX3_lies : ByteArray := prog_5_method_5_code
def yX3_lies : MethodName := ⟨RX3, "lies", "(II)Z"⟩
abbrev cX3_plan : ByteArray := prog_5_method_6_code
def yX3_plan : MethodName := ⟨RX3, "plan", "()I"⟩
abbrev cX3_weigh : ByteArray := prog_5_method_7_code
def yX3_weigh : MethodName := ⟨RX3, "weigh", "(I)V"⟩
abbrev cX3_dropCovered : ByteArray := prog_5_method_8_code
def yX3_dropCovered : MethodName := ⟨RX3, "dropCovered", "(I)V"⟩
abbrev cX3_plannedAt : ByteArray := prog_5_method_9_code
def yX3_plannedAt : MethodName := ⟨RX3, "plannedAt", "(I)I"⟩
def RX4 : String := "BroadSheet"
def TX4 : u_T := fun k => match k with
  | 0 => ("BroadSheet", "eye", "LBroadSheet$Eye;", true)
  | 1 => ("BroadSheet", "lips", "LBroadSheet$Lips;", true)
  | 2 => ("BroadSheet", "sets", "LBroadSheet$Sets;", true)
  | _ => ("BroadSheet", "grades", "LBroadSheet$Grades;", true)
def tyX4 : Nat → FieldType := fun k => match k with
  | 0 => .object "BroadSheet$Eye"
  | 1 => .object "BroadSheet$Lips"
  | 2 => .object "BroadSheet$Sets"
  | _ => .object "BroadSheet$Grades"
abbrev wsX40 : List Cond := u_ws RX4 TX4 4
theorem nmX4 : ∀ a, a < 4 → ∀ b, b < 4 → a ≠ b → (TX4 a).2.1 ≠ (TX4 b).2.1 := by decide +kernel
theorem tyX4_ok : ∀ k, k < 4 → parseFieldDescriptor (TX4 k).2.2.1 = some (tyX4 k) := by decide +kernel
abbrev cX4_init : ByteArray := prog_1_method_1_code
def yX4_init : MethodName := ⟨RX4, "<init>", "()V"⟩
abbrev cX4_sheet : ByteArray := prog_1_method_2_code
def yX4_sheet : MethodName := ⟨RX4, "sheet", "(I)I"⟩
abbrev cX4_read : ByteArray := prog_1_method_3_code
def yX4_read : MethodName := ⟨RX4, "read", "(III)I"⟩
abbrev cX4_reading : ByteArray := prog_1_method_4_code
def yX4_reading : MethodName := ⟨RX4, "reading", "(II)I"⟩
abbrev cX4_across : ByteArray := prog_1_method_5_code
def yX4_across : MethodName := ⟨RX4, "across", "(I)I"⟩
abbrev cX4_along : ByteArray := prog_1_method_6_code
def yX4_along : MethodName := ⟨RX4, "along", "(II)I"⟩
abbrev cX4_groups : ByteArray := prog_1_method_7_code
def yX4_groups : MethodName := ⟨RX4, "groups", "()I"⟩
abbrev cX4_take : ByteArray := prog_1_method_8_code
def yX4_take : MethodName := ⟨RX4, "take", "()I"⟩
abbrev cX4_clear : ByteArray := prog_1_method_9_code
def yX4_clear : MethodName := ⟨RX4, "clear", "()I"⟩
abbrev cX4_laws : ByteArray := prog_1_method_10_code
def yX4_laws : MethodName := ⟨RX4, "laws", "(II)I"⟩
abbrev cX4_spread : ByteArray := prog_1_method_11_code
def yX4_spread : MethodName := ⟨RX4, "spread", "(II)I"⟩
abbrev cX4_base : ByteArray := prog_1_method_12_code
def yX4_base : MethodName := ⟨RX4, "base", "(II)I"⟩
abbrev cX4_set : ByteArray := prog_1_method_13_code
def yX4_set : MethodName := ⟨RX4, "set", "(II)I"⟩
abbrev cX4_about : ByteArray := prog_1_method_14_code
def yX4_about : MethodName := ⟨RX4, "about", "(II)I"⟩
abbrev cX4_uneven : ByteArray := prog_1_method_15_code
def yX4_uneven : MethodName := ⟨RX4, "uneven", "(I)I"⟩
abbrev cX4_best : ByteArray := prog_1_method_16_code
def yX4_best : MethodName := ⟨RX4, "best", "(I)I"⟩
abbrev cX4_kind : ByteArray := prog_1_method_17_code
def yX4_kind : MethodName := ⟨RX4, "kind", "(III)I"⟩
abbrev cX4_canLie : ByteArray := prog_1_method_18_code
def yX4_canLie : MethodName := ⟨RX4, "canLie", "(II)I"⟩
abbrev cX4_cut : ByteArray := prog_1_method_19_code
def yX4_cut : MethodName := ⟨RX4, "cut", "()I"⟩
abbrev cX4_cutAt : ByteArray := prog_1_method_20_code
def yX4_cutAt : MethodName := ⟨RX4, "cutAt", "(I)I"⟩
abbrev cX4_grade : ByteArray := prog_1_method_21_code
def yX4_grade : MethodName := ⟨RX4, "grade", "()I"⟩
abbrev cX4_cost : ByteArray := prog_1_method_22_code
def yX4_cost : MethodName := ⟨RX4, "cost", "(III)I"⟩
abbrev cX4_tour : ByteArray := prog_1_method_23_code
def yX4_tour : MethodName := ⟨RX4, "tour", "(I)I"⟩
abbrev cX4_tourAt : ByteArray := prog_1_method_24_code
def yX4_tourAt : MethodName := ⟨RX4, "tourAt", "(II)I"⟩
abbrev cX4_told : ByteArray := prog_1_method_25_code
def yX4_told : MethodName := ⟨RX4, "told", "(I)I"⟩
abbrev cX4_isPlace : ByteArray := prog_1_method_26_code
def yX4_isPlace : MethodName := ⟨RX4, "isPlace", "(I)Z"⟩
abbrev cX4_isGrade : ByteArray := prog_1_method_27_code
def yX4_isGrade : MethodName := ⟨RX4, "isGrade", "(I)Z"⟩
abbrev cX4_isTime : ByteArray := prog_1_method_28_code
def yX4_isTime : MethodName := ⟨RX4, "isTime", "(I)Z"⟩
abbrev cX4_within : ByteArray := prog_1_method_29_code
def yX4_within : MethodName := ⟨RX4, "within", "(III)Z"⟩
def RX5 : String := "BroadSheetModel"
def TX5 : u_T := fun k => match k with
  | 0 => ("BroadSheetModel", "places", "I", false)
  | 1 => ("BroadSheetModel", "readings", "I", false)
  | 2 => ("BroadSheetModel", "time", "[I", true)
  | 3 => ("BroadSheetModel", "place", "[I", true)
  | 4 => ("BroadSheetModel", "value", "[I", true)
  | 5 => ("BroadSheetModel", "fits", "[Z", true)
  | 6 => ("BroadSheetModel", "group", "[I", true)
  | 7 => ("BroadSheetModel", "more", "[I", true)
  | 8 => ("BroadSheetModel", "base", "[I", true)
  | 9 => ("BroadSheetModel", "setting", "[I", true)
  | 10 => ("BroadSheetModel", "next", "I", false)
  | 11 => ("BroadSheetModel", "bend", "I", false)
  | 12 => ("BroadSheetModel", "main", "I", false)
  | 13 => ("BroadSheetModel", "side", "I", false)
  | 14 => ("BroadSheetModel", "kinds", "I", false)
  | 15 => ("BroadSheetModel", "width", "[I", true)
  | 16 => ("BroadSheetModel", "price", "[I", true)
  | 17 => ("BroadSheetModel", "bound", "[I", true)
  | 18 => ("BroadSheetModel", "grades", "I", false)
  | 19 => ("BroadSheetModel", "cost", "[I", true)
  | 20 => ("BroadSheetModel", "least", "[I", true)
  | 21 => ("BroadSheetModel", "worth", "[I", true)
  | 22 => ("BroadSheetModel", "begins", "[I", true)
  | _ => ("BroadSheetModel", "rest", "[I", true)
def tyX5 : Nat → FieldType := fun k => match k with
  | 0 => .int
  | 1 => .int
  | 2 => .array .int
  | 3 => .array .int
  | 4 => .array .int
  | 5 => .array .boolean
  | 6 => .array .int
  | 7 => .array .int
  | 8 => .array .int
  | 9 => .array .int
  | 10 => .int
  | 11 => .int
  | 12 => .int
  | 13 => .int
  | 14 => .int
  | 15 => .array .int
  | 16 => .array .int
  | 17 => .array .int
  | 18 => .int
  | 19 => .array .int
  | 20 => .array .int
  | 21 => .array .int
  | 22 => .array .int
  | _ => .array .int
abbrev wsX50 : List Cond := u_ws RX5 TX5 24
theorem nmX5 : ∀ a, a < 24 → ∀ b, b < 24 → a ≠ b → (TX5 a).2.1 ≠ (TX5 b).2.1 := by decide +kernel
theorem tyX5_ok : ∀ k, k < 24 → parseFieldDescriptor (TX5 k).2.2.1 = some (tyX5 k) := by decide +kernel
abbrev cX5_init : ByteArray := prog_7_method_1_code
def yX5_init : MethodName := ⟨RX5, "<init>", "()V"⟩
abbrev cX5_in : ByteArray := prog_7_method_2_code
def yX5_in : MethodName := ⟨RX5, "in", "(III)Z"⟩
abbrev cX5_size : ByteArray := prog_7_method_3_code
def yX5_size : MethodName := ⟨RX5, "size", "(I)I"⟩
abbrev cX5_isPlace : ByteArray := prog_7_method_4_code
def yX5_isPlace : MethodName := ⟨RX5, "isPlace", "(I)Z"⟩
abbrev cX5_begin : ByteArray := prog_7_method_5_code
def yX5_begin : MethodName := ⟨RX5, "begin", "()V"⟩
abbrev cX5_sheet : ByteArray := prog_7_method_6_code
def yX5_sheet : MethodName := ⟨RX5, "sheet", "(I)I"⟩
abbrev cX5_read : ByteArray := prog_7_method_7_code
def yX5_read : MethodName := ⟨RX5, "read", "(III)I"⟩
abbrev cX5_reading : ByteArray := prog_7_method_8_code
def yX5_reading : MethodName := ⟨RX5, "reading", "(II)I"⟩
abbrev cX5_isAcross : ByteArray := prog_7_method_9_code
def yX5_isAcross : MethodName := ⟨RX5, "isAcross", "(I)Z"⟩
abbrev cX5_acrossOf : ByteArray := prog_7_method_10_code
def yX5_acrossOf : MethodName := ⟨RX5, "acrossOf", "(I)I"⟩
abbrev cX5_across : ByteArray := prog_7_method_11_code
def yX5_across : MethodName := ⟨RX5, "across", "(I)I"⟩
abbrev cX5_along : ByteArray := prog_7_method_12_code
def yX5_along : MethodName := ⟨RX5, "along", "(II)I"⟩
abbrev cX5_groups : ByteArray := prog_7_method_13_code
def yX5_groups : MethodName := ⟨RX5, "groups", "()I"⟩
abbrev cX5_take : ByteArray := prog_7_method_14_code
def yX5_take : MethodName := ⟨RX5, "take", "()I"⟩
abbrev cX5_clear : ByteArray := prog_7_method_15_code
def yX5_clear : MethodName := ⟨RX5, "clear", "()I"⟩
abbrev cX5_areLawful : ByteArray := prog_7_method_16_code
def yX5_areLawful : MethodName := ⟨RX5, "areLawful", "(II)Z"⟩
abbrev cX5_laws : ByteArray := prog_7_method_17_code
def yX5_laws : MethodName := ⟨RX5, "laws", "(II)I"⟩
abbrev cX5_spread : ByteArray := prog_7_method_18_code
def yX5_spread : MethodName := ⟨RX5, "spread", "(II)I"⟩
abbrev cX5_base : ByteArray := prog_7_method_19_code
def yX5_base : MethodName := ⟨RX5, "base", "(II)I"⟩
abbrev cX5_set : ByteArray := prog_7_method_20_code
def yX5_set : MethodName := ⟨RX5, "set", "(II)I"⟩
abbrev cX5_error : ByteArray := prog_7_method_21_code
def yX5_error : MethodName := ⟨RX5, "error", "(I)I"⟩
abbrev cX5_about : ByteArray := prog_7_method_22_code
def yX5_about : MethodName := ⟨RX5, "about", "(II)I"⟩
abbrev cX5_with : ByteArray := prog_7_method_23_code
def yX5_with : MethodName := ⟨RX5, "with", "(III)I"⟩
abbrev cX5_unevenOf : ByteArray := prog_7_method_24_code
def yX5_unevenOf : MethodName := ⟨RX5, "unevenOf", "(I)I"⟩
abbrev cX5_uneven : ByteArray := prog_7_method_25_code
def yX5_uneven : MethodName := ⟨RX5, "uneven", "(I)I"⟩
abbrev cX5_goes : ByteArray := prog_7_method_26_code
def yX5_goes : MethodName := ⟨RX5, "goes", "(IIII)Z"⟩
abbrev cX5_layLeast : ByteArray := prog_7_method_27_code
def yX5_layLeast : MethodName := ⟨RX5, "layLeast", "(I)V"⟩
abbrev cX5_best : ByteArray := prog_7_method_28_code
def yX5_best : MethodName := ⟨RX5, "best", "(I)I"⟩
abbrev cX5_kind : ByteArray := prog_7_method_29_code
def yX5_kind : MethodName := ⟨RX5, "kind", "(III)I"⟩
abbrev cX5_lies : ByteArray := prog_7_method_30_code
def yX5_lies : MethodName := ⟨RX5, "lies", "(II)Z"⟩
abbrev cX5_canLie : ByteArray := prog_7_method_31_code
def yX5_canLie : MethodName := ⟨RX5, "canLie", "(II)I"⟩
abbrev cX5_layCut : ByteArray := prog_7_method_32_code
def yX5_layCut : MethodName := ⟨RX5, "layCut", "()V"⟩
abbrev cX5_cut : ByteArray := prog_7_method_33_code
def yX5_cut : MethodName := ⟨RX5, "cut", "()I"⟩
abbrev cX5_cutAt : ByteArray := prog_7_method_34_code
def yX5_cutAt : MethodName := ⟨RX5, "cutAt", "(I)I"⟩
abbrev cX5_grade : ByteArray := prog_7_method_35_code
def yX5_grade : MethodName := ⟨RX5, "grade", "()I"⟩
abbrev cX5_isGrade : ByteArray := prog_7_method_36_code
def yX5_isGrade : MethodName := ⟨RX5, "isGrade", "(I)Z"⟩
abbrev cX5_cost : ByteArray := prog_7_method_37_code
def yX5_cost : MethodName := ⟨RX5, "cost", "(III)I"⟩
abbrev cX5_layRest : ByteArray := prog_7_method_38_code
def yX5_layRest : MethodName := ⟨RX5, "layRest", "()V"⟩
abbrev cX5_tour : ByteArray := prog_7_method_39_code
def yX5_tour : MethodName := ⟨RX5, "tour", "(I)I"⟩
abbrev cX5_tourAt : ByteArray := prog_7_method_40_code
def yX5_tourAt : MethodName := ⟨RX5, "tourAt", "(II)I"⟩
abbrev cX5_fitting : ByteArray := prog_7_method_41_code
def yX5_fitting : MethodName := ⟨RX5, "fitting", "()I"⟩
abbrev cX5_told : ByteArray := prog_7_method_42_code
def yX5_told : MethodName := ⟨RX5, "told", "(I)I"⟩
def RJ9 : String := "java/lang/Math"
def TJ9 : u_T := fun k => match k with
  | _ => ("", "", "", false)
def tyJ9 : Nat → FieldType := fun k => match k with
  | _ => .int
abbrev wsJ90 : List Cond := u_ws RJ9 TJ9 0
theorem nmJ9 : ∀ a, a < 0 → ∀ b, b < 0 → a ≠ b → (TJ9 a).2.1 ≠ (TJ9 b).2.1 := by decide +kernel
theorem tyJ9_ok : ∀ k, k < 0 → parseFieldDescriptor (TJ9 k).2.2.1 = some (tyJ9 k) := by decide +kernel
abbrev cJ9_abs_0f7a4 : ByteArray := prog_8_method_59_code
def yJ9_abs_0f7a4 : MethodName := ⟨RJ9, "abs", "(I)I"⟩
abbrev cJ9_max_7cf53 : ByteArray := prog_8_method_65_code
def yJ9_max_7cf53 : MethodName := ⟨RJ9, "max", "(II)I"⟩
abbrev cJ9_min_7cf53 : ByteArray := prog_8_method_69_code
def yJ9_min_7cf53 : MethodName := ⟨RJ9, "min", "(II)I"⟩
def RJ7 : String := "java/util/Arrays"
def TJ7 : u_T := fun k => match k with
  | _ => ("", "", "", false)
def tyJ7 : Nat → FieldType := fun k => match k with
  | _ => .int
abbrev wsJ70 : List Cond := u_ws RJ7 TJ7 0
theorem nmJ7 : ∀ a, a < 0 → ∀ b, b < 0 → a ≠ b → (TJ7 a).2.1 ≠ (TJ7 b).2.1 := by decide +kernel
theorem tyJ7_ok : ∀ k, k < 0 → parseFieldDescriptor (TJ7 k).2.2.1 = some (tyJ7 k) := by decide +kernel
abbrev cJ7_fill_53178 : ByteArray := prog_9_method_103_code
def yJ7_fill_53178 : MethodName := ⟨RJ7, "fill", "([II)V"⟩
def RL : String := "BroadSheetLaw"
abbrev cL_law : ByteArray := code
def yL_law : MethodName := ⟨RL, "law", "([I)Z"⟩
def wsX0_forget : List Cond := .code yX0_forget cX0_forget 2 none :: ([.fieldLink RX0 34 "BroadSheet$Eye" "count" "I", .fieldLink RX0 38 "BroadSheet$Eye" "fittingCount" "I", .fieldLink RX0 25 "BroadSheet$Eye" "group" "[I", .fieldLink RX0 28 "BroadSheet$Eye" "height" "[I"] ++ wsX00)
def wsX0_init : List Cond := .code yX0_init cX0_init 1 none :: ([.methodLink RX0 3 objectInit, .instanceMethod objectInit, .code objectInit ⟨#[0xb1]⟩ 1 none, .arrayClass .int, .fieldLink RX0 9 "BroadSheet$Eye" "times" "[I", .fieldLink RX0 15 "BroadSheet$Eye" "places" "[I", .fieldLink RX0 18 "BroadSheet$Eye" "values" "[I", .arrayClass .boolean, .fieldLink RX0 21 "BroadSheet$Eye" "fitting" "[Z", .fieldLink RX0 25 "BroadSheet$Eye" "group" "[I", .fieldLink RX0 28 "BroadSheet$Eye" "height" "[I", .methodLink RX0 31 yX0_forget, .instanceMethod yX0_forget, .selects RX0 yX0_forget yX0_forget, .initialized RX0, .code yX0_forget cX0_forget 2 none, .fieldLink RX0 34 "BroadSheet$Eye" "count" "I", .fieldLink RX0 38 "BroadSheet$Eye" "fittingCount" "I"] ++ wsX00)
def wsX0_knotOfTime : List Cond := .code yX0_knotOfTime cX0_knotOfTime 1 (some .int) :: ([])
def wsX0_fit : List Cond := .code yX0_fit cX0_fit 8 (some .boolean) :: ([.fieldLink RX0 25 "BroadSheet$Eye" "group" "[I", .fieldLink RX0 28 "BroadSheet$Eye" "height" "[I"] ++ wsX00)
def wsX0_add : List Cond := .code yX0_add cX0_add 5 (some .boolean) :: ([.fieldLink RX0 9 "BroadSheet$Eye" "times" "[I", .fieldLink RX0 34 "BroadSheet$Eye" "count" "I", .fieldLink RX0 15 "BroadSheet$Eye" "places" "[I", .fieldLink RX0 18 "BroadSheet$Eye" "values" "[I", .fieldLink RX0 21 "BroadSheet$Eye" "fitting" "[Z", .fieldLink RX0 38 "BroadSheet$Eye" "fittingCount" "I", .methodLink RX0 41 yX0_knotOfTime, .static yX0_knotOfTime, .initialized RX0, .code yX0_knotOfTime cX0_knotOfTime 1 (some .int), .methodLink RX0 45 yX0_fit, .instanceMethod yX0_fit, .selects RX0 yX0_fit yX0_fit, .code yX0_fit cX0_fit 8 (some .boolean), .fieldLink RX0 25 "BroadSheet$Eye" "group" "[I", .fieldLink RX0 28 "BroadSheet$Eye" "height" "[I"] ++ wsX00)
def wsX0_count : List Cond := .code yX0_count cX0_count 1 (some .int) :: ([.fieldLink RX0 34 "BroadSheet$Eye" "count" "I"] ++ wsX00)
def wsX0_fittingCount : List Cond := .code yX0_fittingCount cX0_fittingCount 1 (some .int) :: ([.fieldLink RX0 38 "BroadSheet$Eye" "fittingCount" "I"] ++ wsX00)
def wsX0_timeOf : List Cond := .code yX0_timeOf cX0_timeOf 2 (some .int) :: ([.fieldLink RX0 9 "BroadSheet$Eye" "times" "[I"] ++ wsX00)
def wsX0_placeOf : List Cond := .code yX0_placeOf cX0_placeOf 2 (some .int) :: ([.fieldLink RX0 15 "BroadSheet$Eye" "places" "[I"] ++ wsX00)
def wsX0_valueOf : List Cond := .code yX0_valueOf cX0_valueOf 2 (some .int) :: ([.fieldLink RX0 18 "BroadSheet$Eye" "values" "[I"] ++ wsX00)
def wsX0_isFitting : List Cond := .code yX0_isFitting cX0_isFitting 2 (some .boolean) :: ([.fieldLink RX0 21 "BroadSheet$Eye" "fitting" "[Z"] ++ wsX00)
def wsX0_hasAcross : List Cond := .code yX0_hasAcross cX0_hasAcross 2 (some .boolean) :: ([.fieldLink RX0 25 "BroadSheet$Eye" "group" "[I"] ++ wsX00)
def wsX0_acrossOf : List Cond := .code yX0_acrossOf cX0_acrossOf 2 (some .int) :: ([.fieldLink RX0 28 "BroadSheet$Eye" "height" "[I"] ++ wsX00)
def wsX0_timesHangTogether : List Cond := .code yX0_timesHangTogether cX0_timesHangTogether 3 (some .boolean) :: ([.fieldLink RX0 25 "BroadSheet$Eye" "group" "[I", .methodLink RX0 41 yX0_knotOfTime, .static yX0_knotOfTime, .initialized RX0, .code yX0_knotOfTime cX0_knotOfTime 1 (some .int)] ++ wsX00)
def wsX0_moreAlong : List Cond := .code yX0_moreAlong cX0_moreAlong 3 (some .int) :: ([.fieldLink RX0 28 "BroadSheet$Eye" "height" "[I", .methodLink RX0 41 yX0_knotOfTime, .static yX0_knotOfTime, .initialized RX0, .code yX0_knotOfTime cX0_knotOfTime 1 (some .int)] ++ wsX00)
def wsX0_isFirstOfGroup : List Cond := .code yX0_isFirstOfGroup cX0_isFirstOfGroup 3 (some .boolean) :: ([.fieldLink RX0 25 "BroadSheet$Eye" "group" "[I"] ++ wsX00)
def wsX0_countGroups : List Cond := .code yX0_countGroups cX0_countGroups 4 (some .int) :: ([.methodLink RX0 49 yX0_isFirstOfGroup, .instanceMethod yX0_isFirstOfGroup, .selects RX0 yX0_isFirstOfGroup yX0_isFirstOfGroup, .initialized RX0, .code yX0_isFirstOfGroup cX0_isFirstOfGroup 3 (some .boolean), .fieldLink RX0 25 "BroadSheet$Eye" "group" "[I"] ++ wsX00)
def wsJ7_fill_53178 : List Cond := .code yJ7_fill_53178 cJ7_fill_53178 4 none :: ([])
def wsX1_init : List Cond := .code yX1_init cX1_init 1 none :: ([.methodLink RX1 3 objectInit, .instanceMethod objectInit, .code objectInit ⟨#[0xb1]⟩ 1 none, .arrayClass .int, .fieldLink RX1 9 "BroadSheet$Grades" "costs" "[I", .fieldLink RX1 15 "BroadSheet$Grades" "rest" "[I", .methodLink RX1 18 yJ7_fill_53178, .static yJ7_fill_53178, .initialized RJ7, .code yJ7_fill_53178 cJ7_fill_53178 4 none] ++ wsX10)
def wsX1_count : List Cond := .code yX1_count cX1_count 1 (some .int) :: ([.fieldLink RX1 24 "BroadSheet$Grades" "count" "I"] ++ wsX10)
def wsX1_add : List Cond := .code yX1_add cX1_add 1 (some .int) :: ([.fieldLink RX1 28 "BroadSheet$Grades" "weighed" "Z", .fieldLink RX1 24 "BroadSheet$Grades" "count" "I"] ++ wsX10)
def wsX1_costOf : List Cond := .code yX1_costOf cX1_costOf 3 (some .int) :: ([.fieldLink RX1 9 "BroadSheet$Grades" "costs" "[I"] ++ wsX10)
def wsX1_putCost : List Cond := .code yX1_putCost cX1_putCost 5 (some .int) :: ([.fieldLink RX1 9 "BroadSheet$Grades" "costs" "[I", .fieldLink RX1 28 "BroadSheet$Grades" "weighed" "Z", .methodLink RX1 32 yX1_costOf, .instanceMethod yX1_costOf, .selects RX1 yX1_costOf yX1_costOf, .initialized RX1, .code yX1_costOf cX1_costOf 3 (some .int)] ++ wsX10)
def wsX1_has : List Cond := .code yX1_has cX1_has 2 (some .boolean) :: ([])
def wsX1_without : List Cond := .code yX1_without cX1_without 2 (some .int) :: ([])
def wsX1_restOf : List Cond := .code yX1_restOf cX1_restOf 3 (some .int) :: ([.fieldLink RX1 15 "BroadSheet$Grades" "rest" "[I"] ++ wsX10)
def wsX1_throughStep : List Cond := .code yX1_throughStep cX1_throughStep 4 (some .int) :: ([.methodLink RX1 32 yX1_costOf, .instanceMethod yX1_costOf, .selects RX1 yX1_costOf yX1_costOf, .initialized RX1, .code yX1_costOf cX1_costOf 3 (some .int), .fieldLink RX1 9 "BroadSheet$Grades" "costs" "[I", .methodLink RX1 49 yX1_without, .static yX1_without, .code yX1_without cX1_without 2 (some .int), .methodLink RX1 43 yX1_restOf, .instanceMethod yX1_restOf, .selects RX1 yX1_restOf yX1_restOf, .code yX1_restOf cX1_restOf 3 (some .int), .fieldLink RX1 15 "BroadSheet$Grades" "rest" "[I"] ++ wsX10)
def wsX1_lesserStep : List Cond := .code yX1_lesserStep cX1_lesserStep 7 (some .int) :: ([.constant RX1 60 (1000000), .fieldLink RX1 24 "BroadSheet$Grades" "count" "I", .methodLink RX1 52 yX1_has, .static yX1_has, .initialized RX1, .code yX1_has cX1_has 2 (some .boolean), .methodLink RX1 56 yX1_throughStep, .instanceMethod yX1_throughStep, .selects RX1 yX1_throughStep yX1_throughStep, .code yX1_throughStep cX1_throughStep 4 (some .int), .methodLink RX1 32 yX1_costOf, .instanceMethod yX1_costOf, .selects RX1 yX1_costOf yX1_costOf, .code yX1_costOf cX1_costOf 3 (some .int), .fieldLink RX1 9 "BroadSheet$Grades" "costs" "[I", .methodLink RX1 49 yX1_without, .static yX1_without, .code yX1_without cX1_without 2 (some .int), .methodLink RX1 43 yX1_restOf, .instanceMethod yX1_restOf, .selects RX1 yX1_restOf yX1_restOf, .code yX1_restOf cX1_restOf 3 (some .int), .fieldLink RX1 15 "BroadSheet$Grades" "rest" "[I"] ++ wsX10)
def wsX1_weighAll_r1 : List Cond := [Cond.fieldLink RX1 28 "BroadSheet$Grades" "weighed" "Z", Cond.fieldLink RX1 24 "BroadSheet$Grades" "count" "I", Cond.fieldLink RX1 15 "BroadSheet$Grades" "rest" "[I", Cond.methodLink RX1 52 yX1_has, Cond.static yX1_has, Cond.initialized RX1, Cond.code yX1_has cX1_has 2 (some .boolean), Cond.methodLink RX1 46 yX1_lesserStep, Cond.instanceMethod yX1_lesserStep, Cond.selects RX1 yX1_lesserStep yX1_lesserStep, Cond.code yX1_lesserStep cX1_lesserStep 7 (some .int), Cond.constant RX1 60 (1000000), Cond.methodLink RX1 56 yX1_throughStep, Cond.instanceMethod yX1_throughStep, Cond.selects RX1 yX1_throughStep yX1_throughStep, Cond.code yX1_throughStep cX1_throughStep 4 (some .int), Cond.methodLink RX1 32 yX1_costOf, Cond.instanceMethod yX1_costOf, Cond.selects RX1 yX1_costOf yX1_costOf, Cond.code yX1_costOf cX1_costOf 3 (some .int), Cond.fieldLink RX1 9 "BroadSheet$Grades" "costs" "[I", Cond.methodLink RX1 49 yX1_without, Cond.static yX1_without, Cond.code yX1_without cX1_without 2 (some .int)]
def wsX1_weighAll_r2 : List Cond := [Cond.methodLink RX1 43 yX1_restOf, Cond.instanceMethod yX1_restOf, Cond.selects RX1 yX1_restOf yX1_restOf, Cond.code yX1_restOf cX1_restOf 3 (some .int)]
def wsX1_weighAll : List Cond := .code yX1_weighAll cX1_weighAll 3 none :: ((wsX1_weighAll_r1 ++ wsX1_weighAll_r2) ++ wsX10)
def wsX1_allBut : List Cond := .code yX1_allBut cX1_allBut 2 (some .int) :: ([.fieldLink RX1 24 "BroadSheet$Grades" "count" "I", .methodLink RX1 49 yX1_without, .static yX1_without, .initialized RX1, .code yX1_without cX1_without 2 (some .int)] ++ wsX10)
def wsX1_leastCosts_r1 : List Cond := [Cond.methodLink RX1 36 yX1_weighAll, Cond.instanceMethod yX1_weighAll, Cond.selects RX1 yX1_weighAll yX1_weighAll, Cond.initialized RX1, Cond.code yX1_weighAll cX1_weighAll 3 none, Cond.fieldLink RX1 28 "BroadSheet$Grades" "weighed" "Z", Cond.fieldLink RX1 24 "BroadSheet$Grades" "count" "I", Cond.fieldLink RX1 15 "BroadSheet$Grades" "rest" "[I", Cond.methodLink RX1 52 yX1_has, Cond.static yX1_has, Cond.code yX1_has cX1_has 2 (some .boolean), Cond.methodLink RX1 46 yX1_lesserStep, Cond.instanceMethod yX1_lesserStep, Cond.selects RX1 yX1_lesserStep yX1_lesserStep, Cond.code yX1_lesserStep cX1_lesserStep 7 (some .int), Cond.constant RX1 60 (1000000), Cond.methodLink RX1 56 yX1_throughStep, Cond.instanceMethod yX1_throughStep, Cond.selects RX1 yX1_throughStep yX1_throughStep, Cond.code yX1_throughStep cX1_throughStep 4 (some .int), Cond.methodLink RX1 32 yX1_costOf, Cond.instanceMethod yX1_costOf, Cond.selects RX1 yX1_costOf yX1_costOf, Cond.code yX1_costOf cX1_costOf 3 (some .int)]
def wsX1_leastCosts_r2 : List Cond := [Cond.fieldLink RX1 9 "BroadSheet$Grades" "costs" "[I", Cond.methodLink RX1 49 yX1_without, Cond.static yX1_without, Cond.code yX1_without cX1_without 2 (some .int), Cond.methodLink RX1 43 yX1_restOf, Cond.instanceMethod yX1_restOf, Cond.selects RX1 yX1_restOf yX1_restOf, Cond.code yX1_restOf cX1_restOf 3 (some .int), Cond.methodLink RX1 39 yX1_allBut, Cond.instanceMethod yX1_allBut, Cond.selects RX1 yX1_allBut yX1_allBut, Cond.code yX1_allBut cX1_allBut 2 (some .int)]
def wsX1_leastCosts : List Cond := .code yX1_leastCosts cX1_leastCosts 2 (some .int) :: ((wsX1_leastCosts_r1 ++ wsX1_leastCosts_r2) ++ wsX10)
def wsX1_stepOf_r1 : List Cond := [Cond.methodLink RX1 36 yX1_weighAll, Cond.instanceMethod yX1_weighAll, Cond.selects RX1 yX1_weighAll yX1_weighAll, Cond.initialized RX1, Cond.code yX1_weighAll cX1_weighAll 3 none, Cond.fieldLink RX1 28 "BroadSheet$Grades" "weighed" "Z", Cond.fieldLink RX1 24 "BroadSheet$Grades" "count" "I", Cond.fieldLink RX1 15 "BroadSheet$Grades" "rest" "[I", Cond.methodLink RX1 52 yX1_has, Cond.static yX1_has, Cond.code yX1_has cX1_has 2 (some .boolean), Cond.methodLink RX1 46 yX1_lesserStep, Cond.instanceMethod yX1_lesserStep, Cond.selects RX1 yX1_lesserStep yX1_lesserStep, Cond.code yX1_lesserStep cX1_lesserStep 7 (some .int), Cond.constant RX1 60 (1000000), Cond.methodLink RX1 56 yX1_throughStep, Cond.instanceMethod yX1_throughStep, Cond.selects RX1 yX1_throughStep yX1_throughStep, Cond.code yX1_throughStep cX1_throughStep 4 (some .int), Cond.methodLink RX1 32 yX1_costOf, Cond.instanceMethod yX1_costOf, Cond.selects RX1 yX1_costOf yX1_costOf, Cond.code yX1_costOf cX1_costOf 3 (some .int)]
def wsX1_stepOf_r2 : List Cond := [Cond.fieldLink RX1 9 "BroadSheet$Grades" "costs" "[I", Cond.methodLink RX1 49 yX1_without, Cond.static yX1_without, Cond.code yX1_without cX1_without 2 (some .int), Cond.methodLink RX1 43 yX1_restOf, Cond.instanceMethod yX1_restOf, Cond.selects RX1 yX1_restOf yX1_restOf, Cond.code yX1_restOf cX1_restOf 3 (some .int), Cond.methodLink RX1 39 yX1_allBut, Cond.instanceMethod yX1_allBut, Cond.selects RX1 yX1_allBut yX1_allBut, Cond.code yX1_allBut cX1_allBut 2 (some .int)]
def wsX1_stepOf : List Cond := .code yX1_stepOf cX1_stepOf 6 (some .int) :: ((wsX1_stepOf_r1 ++ wsX1_stepOf_r2) ++ wsX10)
def wsX2_init : List Cond := .code yX2_init cX2_init 1 none :: ([.methodLink RX2 3 objectInit, .instanceMethod objectInit, .code objectInit ⟨#[0xb1]⟩ 1 none, .arrayClass .int, .fieldLink RX2 9 "BroadSheet$Lips" "bases" "[I", .fieldLink RX2 15 "BroadSheet$Lips" "settings" "[I", .fieldLink RX2 18 "BroadSheet$Lips" "places" "I", .fieldLink RX2 22 "BroadSheet$Lips" "next" "I", .fieldLink RX2 25 "BroadSheet$Lips" "bend" "I", .fieldLink RX2 28 "BroadSheet$Lips" "main" "I", .fieldLink RX2 31 "BroadSheet$Lips" "rest" "[I"] ++ wsX20)
def wsX2_renew : List Cond := .code yX2_renew cX2_renew 2 none :: ([.fieldLink RX2 18 "BroadSheet$Lips" "places" "I", .fieldLink RX2 9 "BroadSheet$Lips" "bases" "[I", .fieldLink RX2 15 "BroadSheet$Lips" "settings" "[I", .methodLink RX2 34 yJ7_fill_53178, .static yJ7_fill_53178, .initialized RJ7, .code yJ7_fill_53178 cJ7_fill_53178 4 none] ++ wsX20)
def wsX2_places : List Cond := .code yX2_places cX2_places 1 (some .int) :: ([.fieldLink RX2 18 "BroadSheet$Lips" "places" "I"] ++ wsX20)
def wsX2_nextLaw : List Cond := .code yX2_nextLaw cX2_nextLaw 1 (some .int) :: ([.fieldLink RX2 22 "BroadSheet$Lips" "next" "I"] ++ wsX20)
def wsX2_bendLaw : List Cond := .code yX2_bendLaw cX2_bendLaw 1 (some .int) :: ([.fieldLink RX2 25 "BroadSheet$Lips" "bend" "I"] ++ wsX20)
def wsX2_mainSpread : List Cond := .code yX2_mainSpread cX2_mainSpread 1 (some .int) :: ([.fieldLink RX2 28 "BroadSheet$Lips" "main" "I"] ++ wsX20)
def wsX2_sideSpread : List Cond := .code yX2_sideSpread cX2_sideSpread 1 (some .int) :: ([.fieldLink RX2 40 "BroadSheet$Lips" "side" "I"] ++ wsX20)
def wsX2_baseOf : List Cond := .code yX2_baseOf cX2_baseOf 2 (some .int) :: ([.fieldLink RX2 9 "BroadSheet$Lips" "bases" "[I"] ++ wsX20)
def wsX2_settingOf : List Cond := .code yX2_settingOf cX2_settingOf 2 (some .int) :: ([.fieldLink RX2 15 "BroadSheet$Lips" "settings" "[I"] ++ wsX20)
def wsX2_putLaws : List Cond := .code yX2_putLaws cX2_putLaws 3 none :: ([.fieldLink RX2 22 "BroadSheet$Lips" "next" "I", .fieldLink RX2 25 "BroadSheet$Lips" "bend" "I"] ++ wsX20)
def wsX2_putSpread : List Cond := .code yX2_putSpread cX2_putSpread 3 none :: ([.fieldLink RX2 28 "BroadSheet$Lips" "main" "I", .fieldLink RX2 40 "BroadSheet$Lips" "side" "I"] ++ wsX20)
def wsX2_putBase : List Cond := .code yX2_putBase cX2_putBase 3 none :: ([.fieldLink RX2 9 "BroadSheet$Lips" "bases" "[I"] ++ wsX20)
def wsX2_isLawful : List Cond := .code yX2_isLawful cX2_isLawful 4 (some .boolean) :: ([.fieldLink RX2 18 "BroadSheet$Lips" "places" "I", .fieldLink RX2 15 "BroadSheet$Lips" "settings" "[I", .methodLink RX2 47 Lib.Math.abs.name, .static Lib.Math.abs.name, .initialized "java/lang/Math", .code Lib.Math.abs.name Lib.Math.abs.code 1 (some .int)] ++ wsX20)
def wsX2_trySetting : List Cond := .code yX2_trySetting cX2_trySetting 4 (some .boolean) :: ([.fieldLink RX2 15 "BroadSheet$Lips" "settings" "[I", .fieldLink RX2 22 "BroadSheet$Lips" "next" "I", .fieldLink RX2 25 "BroadSheet$Lips" "bend" "I", .methodLink RX2 43 yX2_isLawful, .instanceMethod yX2_isLawful, .selects RX2 yX2_isLawful yX2_isLawful, .initialized RX2, .code yX2_isLawful cX2_isLawful 4 (some .boolean), .fieldLink RX2 18 "BroadSheet$Lips" "places" "I", .methodLink RX2 47 Lib.Math.abs.name, .static Lib.Math.abs.name, .initialized "java/lang/Math", .code Lib.Math.abs.name Lib.Math.abs.code 1 (some .int)] ++ wsX20)
def wsX2_errorOf : List Cond := .code yX2_errorOf cX2_errorOf 3 (some .int) :: ([.fieldLink RX2 9 "BroadSheet$Lips" "bases" "[I", .fieldLink RX2 28 "BroadSheet$Lips" "main" "I", .fieldLink RX2 15 "BroadSheet$Lips" "settings" "[I", .fieldLink RX2 40 "BroadSheet$Lips" "side" "I", .fieldLink RX2 18 "BroadSheet$Lips" "places" "I"] ++ wsX20)
def wsX2_sizeOf : List Cond := .code yX2_sizeOf cX2_sizeOf 2 (some .int) :: ([.methodLink RX2 47 Lib.Math.abs.name, .static Lib.Math.abs.name, .initialized "java/lang/Math", .code Lib.Math.abs.name Lib.Math.abs.code 1 (some .int), .methodLink RX2 53 yX2_errorOf, .instanceMethod yX2_errorOf, .selects RX2 yX2_errorOf yX2_errorOf, .initialized RX2, .code yX2_errorOf cX2_errorOf 3 (some .int), .fieldLink RX2 9 "BroadSheet$Lips" "bases" "[I", .fieldLink RX2 28 "BroadSheet$Lips" "main" "I", .fieldLink RX2 15 "BroadSheet$Lips" "settings" "[I", .fieldLink RX2 40 "BroadSheet$Lips" "side" "I", .fieldLink RX2 18 "BroadSheet$Lips" "places" "I"] ++ wsX20)
def wsX2_together : List Cond := .code yX2_together cX2_together 3 (some .int) :: ([.methodLink RX2 63 Lib.Math.max.name, .static Lib.Math.max.name, .initialized "java/lang/Math", .code Lib.Math.max.name Lib.Math.max.code 2 (some .int)])
def wsX2_unevenness : List Cond := .code yX2_unevenness cX2_unevenness 4 (some .int) :: ([.fieldLink RX2 18 "BroadSheet$Lips" "places" "I", .methodLink RX2 56 yX2_sizeOf, .instanceMethod yX2_sizeOf, .selects RX2 yX2_sizeOf yX2_sizeOf, .initialized RX2, .code yX2_sizeOf cX2_sizeOf 2 (some .int), .methodLink RX2 47 Lib.Math.abs.name, .static Lib.Math.abs.name, .initialized "java/lang/Math", .code Lib.Math.abs.name Lib.Math.abs.code 1 (some .int), .methodLink RX2 53 yX2_errorOf, .instanceMethod yX2_errorOf, .selects RX2 yX2_errorOf yX2_errorOf, .code yX2_errorOf cX2_errorOf 3 (some .int), .fieldLink RX2 9 "BroadSheet$Lips" "bases" "[I", .fieldLink RX2 28 "BroadSheet$Lips" "main" "I", .fieldLink RX2 15 "BroadSheet$Lips" "settings" "[I", .fieldLink RX2 40 "BroadSheet$Lips" "side" "I", .methodLink RX2 59 yX2_together, .static yX2_together, .code yX2_together cX2_together 3 (some .int), .methodLink RX2 63 Lib.Math.max.name, .static Lib.Math.max.name, .code Lib.Math.max.name Lib.Math.max.code 2 (some .int)] ++ wsX20)
def wsX2_spot : List Cond := .code yX2_spot cX2_spot 3 (some .int) :: ([])
def wsX2_weighLast : List Cond := .code yX2_weighLast cX2_weighLast 4 none :: ([.fieldLink RX2 18 "BroadSheet$Lips" "places" "I", .fieldLink RX2 31 "BroadSheet$Lips" "rest" "[I", .fieldLink RX2 9 "BroadSheet$Lips" "bases" "[I", .fieldLink RX2 28 "BroadSheet$Lips" "main" "I", .fieldLink RX2 40 "BroadSheet$Lips" "side" "I", .methodLink RX2 47 Lib.Math.abs.name, .static Lib.Math.abs.name, .initialized "java/lang/Math", .code Lib.Math.abs.name Lib.Math.abs.code 1 (some .int), .methodLink RX2 82 yX2_spot, .static yX2_spot, .initialized RX2, .code yX2_spot cX2_spot 3 (some .int)] ++ wsX20)
def wsX2_highestAfter : List Cond := .code yX2_highestAfter cX2_highestAfter 3 (some .int) :: ([.fieldLink RX2 22 "BroadSheet$Lips" "next" "I", .fieldLink RX2 25 "BroadSheet$Lips" "bend" "I", .methodLink RX2 86 Lib.Math.min.name, .static Lib.Math.min.name, .initialized "java/lang/Math", .code Lib.Math.min.name Lib.Math.min.code 2 (some .int)] ++ wsX20)
def wsX2_lowestAfter : List Cond := .code yX2_lowestAfter cX2_lowestAfter 3 (some .int) :: ([.fieldLink RX2 22 "BroadSheet$Lips" "next" "I", .fieldLink RX2 25 "BroadSheet$Lips" "bend" "I", .methodLink RX2 63 Lib.Math.max.name, .static Lib.Math.max.name, .initialized "java/lang/Math", .code Lib.Math.max.name Lib.Math.max.code 2 (some .int)] ++ wsX20)
def wsX2_leastRest_r1 : List Cond := [Cond.constant RX2 92 (1000000), Cond.fieldLink RX2 9 "BroadSheet$Lips" "bases" "[I", Cond.fieldLink RX2 28 "BroadSheet$Lips" "main" "I", Cond.fieldLink RX2 40 "BroadSheet$Lips" "side" "I", Cond.fieldLink RX2 31 "BroadSheet$Lips" "rest" "[I", Cond.methodLink RX2 82 yX2_spot, Cond.static yX2_spot, Cond.initialized RX2, Cond.code yX2_spot cX2_spot 3 (some .int), Cond.methodLink RX2 93 yX2_highestAfter, Cond.instanceMethod yX2_highestAfter, Cond.selects RX2 yX2_highestAfter yX2_highestAfter, Cond.code yX2_highestAfter cX2_highestAfter 3 (some .int), Cond.fieldLink RX2 22 "BroadSheet$Lips" "next" "I", Cond.fieldLink RX2 25 "BroadSheet$Lips" "bend" "I", Cond.methodLink RX2 86 Lib.Math.min.name, Cond.static Lib.Math.min.name, Cond.initialized "java/lang/Math", Cond.code Lib.Math.min.name Lib.Math.min.code 2 (some .int), Cond.methodLink RX2 96 yX2_lowestAfter, Cond.instanceMethod yX2_lowestAfter, Cond.selects RX2 yX2_lowestAfter yX2_lowestAfter, Cond.code yX2_lowestAfter cX2_lowestAfter 3 (some .int), Cond.methodLink RX2 63 Lib.Math.max.name]
def wsX2_leastRest_r2 : List Cond := [Cond.static Lib.Math.max.name, Cond.code Lib.Math.max.name Lib.Math.max.code 2 (some .int)]
def wsX2_leastRest : List Cond := .code yX2_leastRest cX2_leastRest 14 (some .int) :: ((wsX2_leastRest_r1 ++ wsX2_leastRest_r2) ++ wsX20)
def wsX2_weigh_r1 : List Cond := [Cond.fieldLink RX2 22 "BroadSheet$Lips" "next" "I", Cond.methodLink RX2 63 Lib.Math.max.name, Cond.static Lib.Math.max.name, Cond.initialized "java/lang/Math", Cond.code Lib.Math.max.name Lib.Math.max.code 2 (some .int), Cond.methodLink RX2 86 Lib.Math.min.name, Cond.static Lib.Math.min.name, Cond.code Lib.Math.min.name Lib.Math.min.code 2 (some .int), Cond.fieldLink RX2 31 "BroadSheet$Lips" "rest" "[I", Cond.methodLink RX2 82 yX2_spot, Cond.static yX2_spot, Cond.initialized RX2, Cond.code yX2_spot cX2_spot 3 (some .int), Cond.methodLink RX2 89 yX2_leastRest, Cond.instanceMethod yX2_leastRest, Cond.selects RX2 yX2_leastRest yX2_leastRest, Cond.code yX2_leastRest cX2_leastRest 14 (some .int), Cond.constant RX2 92 (1000000), Cond.fieldLink RX2 9 "BroadSheet$Lips" "bases" "[I", Cond.fieldLink RX2 28 "BroadSheet$Lips" "main" "I", Cond.fieldLink RX2 40 "BroadSheet$Lips" "side" "I", Cond.methodLink RX2 93 yX2_highestAfter, Cond.instanceMethod yX2_highestAfter, Cond.selects RX2 yX2_highestAfter yX2_highestAfter]
def wsX2_weigh_r2 : List Cond := [Cond.code yX2_highestAfter cX2_highestAfter 3 (some .int), Cond.fieldLink RX2 25 "BroadSheet$Lips" "bend" "I", Cond.methodLink RX2 96 yX2_lowestAfter, Cond.instanceMethod yX2_lowestAfter, Cond.selects RX2 yX2_lowestAfter yX2_lowestAfter, Cond.code yX2_lowestAfter cX2_lowestAfter 3 (some .int)]
def wsX2_weigh : List Cond := .code yX2_weigh cX2_weigh 7 none :: ((wsX2_weigh_r1 ++ wsX2_weigh_r2) ++ wsX20)
def wsX2_settleFirstTwo : List Cond := .code yX2_settleFirstTwo cX2_settleFirstTwo 8 (some .int) :: ([.constant RX2 92 (1000000), .fieldLink RX2 22 "BroadSheet$Lips" "next" "I", .methodLink RX2 86 Lib.Math.min.name, .static Lib.Math.min.name, .initialized "java/lang/Math", .code Lib.Math.min.name Lib.Math.min.code 2 (some .int), .methodLink RX2 63 Lib.Math.max.name, .static Lib.Math.max.name, .code Lib.Math.max.name Lib.Math.max.code 2 (some .int), .fieldLink RX2 9 "BroadSheet$Lips" "bases" "[I", .fieldLink RX2 28 "BroadSheet$Lips" "main" "I", .fieldLink RX2 40 "BroadSheet$Lips" "side" "I", .methodLink RX2 47 Lib.Math.abs.name, .static Lib.Math.abs.name, .code Lib.Math.abs.name Lib.Math.abs.code 1 (some .int), .fieldLink RX2 31 "BroadSheet$Lips" "rest" "[I", .fieldLink RX2 15 "BroadSheet$Lips" "settings" "[I", .methodLink RX2 82 yX2_spot, .static yX2_spot, .initialized RX2, .code yX2_spot cX2_spot 3 (some .int), .methodLink RX2 59 yX2_together, .static yX2_together, .code yX2_together cX2_together 3 (some .int)] ++ wsX20)
def wsX2_lesserAfter_r1 : List Cond := [Cond.fieldLink RX2 15 "BroadSheet$Lips" "settings" "[I", Cond.fieldLink RX2 9 "BroadSheet$Lips" "bases" "[I", Cond.fieldLink RX2 28 "BroadSheet$Lips" "main" "I", Cond.fieldLink RX2 40 "BroadSheet$Lips" "side" "I", Cond.methodLink RX2 47 Lib.Math.abs.name, Cond.static Lib.Math.abs.name, Cond.initialized "java/lang/Math", Cond.code Lib.Math.abs.name Lib.Math.abs.code 1 (some .int), Cond.fieldLink RX2 31 "BroadSheet$Lips" "rest" "[I", Cond.methodLink RX2 82 yX2_spot, Cond.static yX2_spot, Cond.initialized RX2, Cond.code yX2_spot cX2_spot 3 (some .int), Cond.methodLink RX2 93 yX2_highestAfter, Cond.instanceMethod yX2_highestAfter, Cond.selects RX2 yX2_highestAfter yX2_highestAfter, Cond.code yX2_highestAfter cX2_highestAfter 3 (some .int), Cond.fieldLink RX2 22 "BroadSheet$Lips" "next" "I", Cond.fieldLink RX2 25 "BroadSheet$Lips" "bend" "I", Cond.methodLink RX2 86 Lib.Math.min.name, Cond.static Lib.Math.min.name, Cond.code Lib.Math.min.name Lib.Math.min.code 2 (some .int), Cond.methodLink RX2 96 yX2_lowestAfter, Cond.instanceMethod yX2_lowestAfter]
def wsX2_lesserAfter_r2 : List Cond := [Cond.selects RX2 yX2_lowestAfter yX2_lowestAfter, Cond.code yX2_lowestAfter cX2_lowestAfter 3 (some .int), Cond.methodLink RX2 63 Lib.Math.max.name, Cond.static Lib.Math.max.name, Cond.code Lib.Math.max.name Lib.Math.max.code 2 (some .int), Cond.methodLink RX2 59 yX2_together, Cond.static yX2_together, Cond.code yX2_together cX2_together 3 (some .int)]
def wsX2_lesserAfter : List Cond := .code yX2_lesserAfter cX2_lesserAfter 12 (some .int) :: ((wsX2_lesserAfter_r1 ++ wsX2_lesserAfter_r2) ++ wsX20)
def wsX2_settle_r1 : List Cond := [Cond.fieldLink RX2 18 "BroadSheet$Lips" "places" "I", Cond.fieldLink RX2 15 "BroadSheet$Lips" "settings" "[I", Cond.methodLink RX2 67 yX2_weighLast, Cond.instanceMethod yX2_weighLast, Cond.selects RX2 yX2_weighLast yX2_weighLast, Cond.initialized RX2, Cond.code yX2_weighLast cX2_weighLast 4 none, Cond.fieldLink RX2 31 "BroadSheet$Lips" "rest" "[I", Cond.fieldLink RX2 9 "BroadSheet$Lips" "bases" "[I", Cond.fieldLink RX2 28 "BroadSheet$Lips" "main" "I", Cond.fieldLink RX2 40 "BroadSheet$Lips" "side" "I", Cond.methodLink RX2 47 Lib.Math.abs.name, Cond.static Lib.Math.abs.name, Cond.initialized "java/lang/Math", Cond.code Lib.Math.abs.name Lib.Math.abs.code 1 (some .int), Cond.methodLink RX2 82 yX2_spot, Cond.static yX2_spot, Cond.code yX2_spot cX2_spot 3 (some .int), Cond.methodLink RX2 70 yX2_weigh, Cond.instanceMethod yX2_weigh, Cond.selects RX2 yX2_weigh yX2_weigh, Cond.code yX2_weigh cX2_weigh 7 none, Cond.fieldLink RX2 22 "BroadSheet$Lips" "next" "I", Cond.methodLink RX2 63 Lib.Math.max.name]
def wsX2_settle_r2 : List Cond := [Cond.static Lib.Math.max.name, Cond.code Lib.Math.max.name Lib.Math.max.code 2 (some .int), Cond.methodLink RX2 86 Lib.Math.min.name, Cond.static Lib.Math.min.name, Cond.code Lib.Math.min.name Lib.Math.min.code 2 (some .int), Cond.methodLink RX2 89 yX2_leastRest, Cond.instanceMethod yX2_leastRest, Cond.selects RX2 yX2_leastRest yX2_leastRest, Cond.code yX2_leastRest cX2_leastRest 14 (some .int), Cond.constant RX2 92 (1000000), Cond.methodLink RX2 93 yX2_highestAfter, Cond.instanceMethod yX2_highestAfter, Cond.selects RX2 yX2_highestAfter yX2_highestAfter, Cond.code yX2_highestAfter cX2_highestAfter 3 (some .int), Cond.fieldLink RX2 25 "BroadSheet$Lips" "bend" "I", Cond.methodLink RX2 96 yX2_lowestAfter, Cond.instanceMethod yX2_lowestAfter, Cond.selects RX2 yX2_lowestAfter yX2_lowestAfter, Cond.code yX2_lowestAfter cX2_lowestAfter 3 (some .int), Cond.methodLink RX2 74 yX2_settleFirstTwo, Cond.instanceMethod yX2_settleFirstTwo, Cond.selects RX2 yX2_settleFirstTwo yX2_settleFirstTwo, Cond.code yX2_settleFirstTwo cX2_settleFirstTwo 8 (some .int), Cond.methodLink RX2 59 yX2_together]
def wsX2_settle_r3 : List Cond := [Cond.static yX2_together, Cond.code yX2_together cX2_together 3 (some .int), Cond.methodLink RX2 56 yX2_sizeOf, Cond.instanceMethod yX2_sizeOf, Cond.selects RX2 yX2_sizeOf yX2_sizeOf, Cond.code yX2_sizeOf cX2_sizeOf 2 (some .int), Cond.methodLink RX2 53 yX2_errorOf, Cond.instanceMethod yX2_errorOf, Cond.selects RX2 yX2_errorOf yX2_errorOf, Cond.code yX2_errorOf cX2_errorOf 3 (some .int), Cond.methodLink RX2 78 yX2_lesserAfter, Cond.instanceMethod yX2_lesserAfter, Cond.selects RX2 yX2_lesserAfter yX2_lesserAfter, Cond.code yX2_lesserAfter cX2_lesserAfter 12 (some .int)]
def wsX2_settle : List Cond := .code yX2_settle cX2_settle 5 (some .int) :: ((wsX2_settle_r1 ++ (wsX2_settle_r2 ++ wsX2_settle_r3)) ++ wsX20)
def wsX3_init : List Cond := .code yX3_init cX3_init 2 none :: ([.methodLink RX3 3 objectInit, .instanceMethod objectInit, .code objectInit ⟨#[0xb1]⟩ 1 none, .arrayClass .int, .fieldLink RX3 9 "BroadSheet$Sets" "widths" "[I", .fieldLink RX3 15 "BroadSheet$Sets" "prices" "[I", .fieldLink RX3 18 "BroadSheet$Sets" "bounds" "[I", .fieldLink RX3 21 "BroadSheet$Sets" "worth" "[I", .fieldLink RX3 24 "BroadSheet$Sets" "begins" "[I", .fieldLink RX3 27 "BroadSheet$Sets" "lips" "LBroadSheet$Lips;"] ++ wsX30)
def wsX3_forget : List Cond := .code yX3_forget cX3_forget 1 none :: ([.fieldLink RX3 31 "BroadSheet$Sets" "count" "I"] ++ wsX30)
def wsX3_count : List Cond := .code yX3_count cX3_count 1 (some .int) :: ([.fieldLink RX3 31 "BroadSheet$Sets" "count" "I"] ++ wsX30)
def wsX3_add : List Cond := .code yX3_add cX3_add 4 (some .int) :: ([.fieldLink RX3 9 "BroadSheet$Sets" "widths" "[I", .fieldLink RX3 31 "BroadSheet$Sets" "count" "I", .fieldLink RX3 15 "BroadSheet$Sets" "prices" "[I", .fieldLink RX3 18 "BroadSheet$Sets" "bounds" "[I"] ++ wsX30)
def wsX3_lies_r1 : List Cond := [Cond.fieldLink RX3 9 "BroadSheet$Sets" "widths" "[I", Cond.fieldLink RX3 27 "BroadSheet$Sets" "lips" "LBroadSheet$Lips;", Cond.fieldLink RX3 18 "BroadSheet$Sets" "bounds" "[I", Cond.methodLink RX3 35 yX2_places, Cond.instanceMethod yX2_places, Cond.selects RX2 yX2_places yX2_places, Cond.initialized RX2, Cond.code yX2_places cX2_places 1 (some .int), Cond.fieldLink RX2 18 "BroadSheet$Lips" "places" "I", Cond.methodLink RX3 41 yX2_sizeOf, Cond.instanceMethod yX2_sizeOf, Cond.selects RX2 yX2_sizeOf yX2_sizeOf, Cond.code yX2_sizeOf cX2_sizeOf 2 (some .int), Cond.methodLink RX2 47 Lib.Math.abs.name, Cond.static Lib.Math.abs.name, Cond.initialized "java/lang/Math", Cond.code Lib.Math.abs.name Lib.Math.abs.code 1 (some .int), Cond.methodLink RX2 53 yX2_errorOf, Cond.instanceMethod yX2_errorOf, Cond.selects RX2 yX2_errorOf yX2_errorOf, Cond.code yX2_errorOf cX2_errorOf 3 (some .int), Cond.fieldLink RX2 9 "BroadSheet$Lips" "bases" "[I", Cond.fieldLink RX2 28 "BroadSheet$Lips" "main" "I", Cond.fieldLink RX2 15 "BroadSheet$Lips" "settings" "[I"]
def wsX3_lies_r2 : List Cond := [Cond.fieldLink RX2 40 "BroadSheet$Lips" "side" "I"]
def wsX3_lies : List Cond := .code yX3_lies cX3_lies 5 (some .boolean) :: ((wsX3_lies_r1 ++ wsX3_lies_r2) ++ wsX30 ++ wsX20)
def wsX3_weigh_r1 : List Cond := [Cond.fieldLink RX3 21 "BroadSheet$Sets" "worth" "[I", Cond.fieldLink RX3 31 "BroadSheet$Sets" "count" "I", Cond.fieldLink RX3 15 "BroadSheet$Sets" "prices" "[I", Cond.fieldLink RX3 9 "BroadSheet$Sets" "widths" "[I", Cond.fieldLink RX3 24 "BroadSheet$Sets" "begins" "[I", Cond.methodLink RX3 52 yX3_lies, Cond.instanceMethod yX3_lies, Cond.selects RX3 yX3_lies yX3_lies, Cond.initialized RX3, Cond.code yX3_lies cX3_lies 5 (some .boolean), Cond.fieldLink RX3 27 "BroadSheet$Sets" "lips" "LBroadSheet$Lips;", Cond.fieldLink RX3 18 "BroadSheet$Sets" "bounds" "[I", Cond.methodLink RX3 35 yX2_places, Cond.instanceMethod yX2_places, Cond.selects RX2 yX2_places yX2_places, Cond.initialized RX2, Cond.code yX2_places cX2_places 1 (some .int), Cond.fieldLink RX2 18 "BroadSheet$Lips" "places" "I", Cond.methodLink RX3 41 yX2_sizeOf, Cond.instanceMethod yX2_sizeOf, Cond.selects RX2 yX2_sizeOf yX2_sizeOf, Cond.code yX2_sizeOf cX2_sizeOf 2 (some .int), Cond.methodLink RX2 47 Lib.Math.abs.name, Cond.static Lib.Math.abs.name]
def wsX3_weigh_r2 : List Cond := [Cond.initialized "java/lang/Math", Cond.code Lib.Math.abs.name Lib.Math.abs.code 1 (some .int), Cond.methodLink RX2 53 yX2_errorOf, Cond.instanceMethod yX2_errorOf, Cond.selects RX2 yX2_errorOf yX2_errorOf, Cond.code yX2_errorOf cX2_errorOf 3 (some .int), Cond.fieldLink RX2 9 "BroadSheet$Lips" "bases" "[I", Cond.fieldLink RX2 28 "BroadSheet$Lips" "main" "I", Cond.fieldLink RX2 15 "BroadSheet$Lips" "settings" "[I", Cond.fieldLink RX2 40 "BroadSheet$Lips" "side" "I"]
def wsX3_weigh : List Cond := .code yX3_weigh cX3_weigh 6 none :: ((wsX3_weigh_r1 ++ wsX3_weigh_r2) ++ wsX30 ++ wsX20)
def wsX3_dropCovered : List Cond := .code yX3_dropCovered cX3_dropCovered 4 none :: ([.fieldLink RX3 24 "BroadSheet$Sets" "begins" "[I", .fieldLink RX3 9 "BroadSheet$Sets" "widths" "[I"] ++ wsX30)
def wsX3_plan_r1 : List Cond := [Cond.fieldLink RX3 27 "BroadSheet$Sets" "lips" "LBroadSheet$Lips;", Cond.fieldLink RX3 21 "BroadSheet$Sets" "worth" "[I", Cond.methodLink RX3 35 yX2_places, Cond.instanceMethod yX2_places, Cond.selects RX2 yX2_places yX2_places, Cond.initialized RX2, Cond.code yX2_places cX2_places 1 (some .int), Cond.fieldLink RX2 18 "BroadSheet$Lips" "places" "I", Cond.methodLink RX3 45 yX3_weigh, Cond.instanceMethod yX3_weigh, Cond.selects RX3 yX3_weigh yX3_weigh, Cond.initialized RX3, Cond.code yX3_weigh cX3_weigh 6 none, Cond.fieldLink RX3 31 "BroadSheet$Sets" "count" "I", Cond.fieldLink RX3 15 "BroadSheet$Sets" "prices" "[I", Cond.fieldLink RX3 9 "BroadSheet$Sets" "widths" "[I", Cond.fieldLink RX3 24 "BroadSheet$Sets" "begins" "[I", Cond.methodLink RX3 52 yX3_lies, Cond.instanceMethod yX3_lies, Cond.selects RX3 yX3_lies yX3_lies, Cond.code yX3_lies cX3_lies 5 (some .boolean), Cond.fieldLink RX3 18 "BroadSheet$Sets" "bounds" "[I", Cond.methodLink RX3 41 yX2_sizeOf, Cond.instanceMethod yX2_sizeOf]
def wsX3_plan_r2 : List Cond := [Cond.selects RX2 yX2_sizeOf yX2_sizeOf, Cond.code yX2_sizeOf cX2_sizeOf 2 (some .int), Cond.methodLink RX2 47 Lib.Math.abs.name, Cond.static Lib.Math.abs.name, Cond.initialized "java/lang/Math", Cond.code Lib.Math.abs.name Lib.Math.abs.code 1 (some .int), Cond.methodLink RX2 53 yX2_errorOf, Cond.instanceMethod yX2_errorOf, Cond.selects RX2 yX2_errorOf yX2_errorOf, Cond.code yX2_errorOf cX2_errorOf 3 (some .int), Cond.fieldLink RX2 9 "BroadSheet$Lips" "bases" "[I", Cond.fieldLink RX2 28 "BroadSheet$Lips" "main" "I", Cond.fieldLink RX2 15 "BroadSheet$Lips" "settings" "[I", Cond.fieldLink RX2 40 "BroadSheet$Lips" "side" "I", Cond.methodLink RX3 49 yX3_dropCovered, Cond.instanceMethod yX3_dropCovered, Cond.selects RX3 yX3_dropCovered yX3_dropCovered, Cond.code yX3_dropCovered cX3_dropCovered 4 none]
def wsX3_plan : List Cond := .code yX3_plan cX3_plan 3 (some .int) :: ((wsX3_plan_r1 ++ wsX3_plan_r2) ++ wsX30 ++ wsX20)
def wsX3_plannedAt : List Cond := .code yX3_plannedAt cX3_plannedAt 2 (some .int) :: ([.fieldLink RX3 24 "BroadSheet$Sets" "begins" "[I"] ++ wsX30)
def wsX4_init_r1 : List Cond := [Cond.methodLink RX4 1 objectInit, Cond.instanceMethod objectInit, Cond.code objectInit ⟨#[0xb1]⟩ 1 none, Cond.classLink RX4 7 RX0, Cond.instantiable RX0 8, Cond.initialized RX0, Cond.fieldLink RX4 10 "BroadSheet" "eye" "LBroadSheet$Eye;", Cond.classLink RX4 16 RX2, Cond.instantiable RX2 8, Cond.initialized RX2, Cond.fieldLink RX4 19 "BroadSheet" "lips" "LBroadSheet$Lips;", Cond.classLink RX4 23 RX3, Cond.instantiable RX3 7, Cond.initialized RX3, Cond.fieldLink RX4 28 "BroadSheet" "sets" "LBroadSheet$Sets;", Cond.classLink RX4 32 RX1, Cond.instantiable RX1 4, Cond.initialized RX1, Cond.fieldLink RX4 35 "BroadSheet" "grades" "LBroadSheet$Grades;", Cond.methodLink RX4 9 yX0_init, Cond.instanceMethod yX0_init, Cond.code yX0_init cX0_init 1 none, Cond.methodLink RX0 3 objectInit, Cond.arrayClass .int]
def wsX4_init_r2 : List Cond := [Cond.fieldLink RX0 9 "BroadSheet$Eye" "times" "[I", Cond.fieldLink RX0 15 "BroadSheet$Eye" "places" "[I", Cond.fieldLink RX0 18 "BroadSheet$Eye" "values" "[I", Cond.arrayClass .boolean, Cond.fieldLink RX0 21 "BroadSheet$Eye" "fitting" "[Z", Cond.fieldLink RX0 25 "BroadSheet$Eye" "group" "[I", Cond.fieldLink RX0 28 "BroadSheet$Eye" "height" "[I", Cond.methodLink RX0 31 yX0_forget, Cond.instanceMethod yX0_forget, Cond.selects RX0 yX0_forget yX0_forget, Cond.code yX0_forget cX0_forget 2 none, Cond.fieldLink RX0 34 "BroadSheet$Eye" "count" "I", Cond.fieldLink RX0 38 "BroadSheet$Eye" "fittingCount" "I", Cond.methodLink RX4 18 yX2_init, Cond.instanceMethod yX2_init, Cond.code yX2_init cX2_init 1 none, Cond.methodLink RX2 3 objectInit, Cond.fieldLink RX2 9 "BroadSheet$Lips" "bases" "[I", Cond.fieldLink RX2 15 "BroadSheet$Lips" "settings" "[I", Cond.fieldLink RX2 18 "BroadSheet$Lips" "places" "I", Cond.fieldLink RX2 22 "BroadSheet$Lips" "next" "I", Cond.fieldLink RX2 25 "BroadSheet$Lips" "bend" "I", Cond.fieldLink RX2 28 "BroadSheet$Lips" "main" "I", Cond.fieldLink RX2 31 "BroadSheet$Lips" "rest" "[I"]
def wsX4_init_r3 : List Cond := [Cond.methodLink RX4 25 yX3_init, Cond.instanceMethod yX3_init, Cond.code yX3_init cX3_init 2 none, Cond.methodLink RX3 3 objectInit, Cond.fieldLink RX3 9 "BroadSheet$Sets" "widths" "[I", Cond.fieldLink RX3 15 "BroadSheet$Sets" "prices" "[I", Cond.fieldLink RX3 18 "BroadSheet$Sets" "bounds" "[I", Cond.fieldLink RX3 21 "BroadSheet$Sets" "worth" "[I", Cond.fieldLink RX3 24 "BroadSheet$Sets" "begins" "[I", Cond.fieldLink RX3 27 "BroadSheet$Sets" "lips" "LBroadSheet$Lips;", Cond.methodLink RX4 34 yX1_init, Cond.instanceMethod yX1_init, Cond.code yX1_init cX1_init 1 none, Cond.methodLink RX1 3 objectInit, Cond.fieldLink RX1 9 "BroadSheet$Grades" "costs" "[I", Cond.fieldLink RX1 15 "BroadSheet$Grades" "rest" "[I", Cond.methodLink RX1 18 yJ7_fill_53178, Cond.static yJ7_fill_53178, Cond.initialized RJ7, Cond.code yJ7_fill_53178 cJ7_fill_53178 4 none]
def wsX4_init : List Cond := .code yX4_init cX4_init 1 none :: ((wsX4_init_r1 ++ (wsX4_init_r2 ++ wsX4_init_r3)) ++ wsX00 ++ wsX40 ++ wsX20 ++ wsX30 ++ wsX10)
def wsX4_within : List Cond := .code yX4_within cX4_within 3 (some .boolean) :: ([])
def wsX4_sheet_r1 : List Cond := [Cond.fieldLink RX4 19 "BroadSheet" "lips" "LBroadSheet$Lips;", Cond.fieldLink RX4 10 "BroadSheet" "eye" "LBroadSheet$Eye;", Cond.fieldLink RX4 28 "BroadSheet" "sets" "LBroadSheet$Sets;", Cond.methodLink RX4 39 yX4_within, Cond.static yX4_within, Cond.initialized RX4, Cond.code yX4_within cX4_within 3 (some .boolean), Cond.methodLink RX4 43 yX2_places, Cond.instanceMethod yX2_places, Cond.selects RX2 yX2_places yX2_places, Cond.initialized RX2, Cond.code yX2_places cX2_places 1 (some .int), Cond.fieldLink RX2 18 "BroadSheet$Lips" "places" "I", Cond.methodLink RX4 47 yX0_forget, Cond.instanceMethod yX0_forget, Cond.selects RX0 yX0_forget yX0_forget, Cond.initialized RX0, Cond.code yX0_forget cX0_forget 2 none, Cond.fieldLink RX0 34 "BroadSheet$Eye" "count" "I", Cond.fieldLink RX0 38 "BroadSheet$Eye" "fittingCount" "I", Cond.fieldLink RX0 25 "BroadSheet$Eye" "group" "[I", Cond.fieldLink RX0 28 "BroadSheet$Eye" "height" "[I", Cond.methodLink RX4 50 yX3_forget, Cond.instanceMethod yX3_forget]
def wsX4_sheet_r2 : List Cond := [Cond.selects RX3 yX3_forget yX3_forget, Cond.initialized RX3, Cond.code yX3_forget cX3_forget 1 none, Cond.fieldLink RX3 31 "BroadSheet$Sets" "count" "I", Cond.methodLink RX4 51 yX2_renew, Cond.instanceMethod yX2_renew, Cond.selects RX2 yX2_renew yX2_renew, Cond.code yX2_renew cX2_renew 2 none, Cond.fieldLink RX2 9 "BroadSheet$Lips" "bases" "[I", Cond.fieldLink RX2 15 "BroadSheet$Lips" "settings" "[I", Cond.methodLink RX2 34 yJ7_fill_53178, Cond.static yJ7_fill_53178, Cond.initialized RJ7, Cond.code yJ7_fill_53178 cJ7_fill_53178 4 none]
def wsX4_sheet : List Cond := .code yX4_sheet cX4_sheet 3 (some .int) :: ((wsX4_sheet_r1 ++ wsX4_sheet_r2) ++ wsX40 ++ wsX20 ++ wsX00 ++ wsX30)
def wsX4_isPlace : List Cond := .code yX4_isPlace cX4_isPlace 2 (some .boolean) :: ([.fieldLink RX4 19 "BroadSheet" "lips" "LBroadSheet$Lips;", .methodLink RX4 43 yX2_places, .instanceMethod yX2_places, .selects RX2 yX2_places yX2_places, .initialized RX2, .code yX2_places cX2_places 1 (some .int), .fieldLink RX2 18 "BroadSheet$Lips" "places" "I", .methodLink RX4 39 yX4_within, .static yX4_within, .initialized RX4, .code yX4_within cX4_within 3 (some .boolean)] ++ wsX40 ++ wsX20)
def wsX4_isTime : List Cond := .code yX4_isTime cX4_isTime 1 (some .boolean) :: ([.methodLink RX4 39 yX4_within, .static yX4_within, .initialized RX4, .code yX4_within cX4_within 3 (some .boolean)])
def wsX4_read_r1 : List Cond := [Cond.fieldLink RX4 10 "BroadSheet" "eye" "LBroadSheet$Eye;", Cond.methodLink RX4 55 yX4_isPlace, Cond.instanceMethod yX4_isPlace, Cond.selects RX4 yX4_isPlace yX4_isPlace, Cond.initialized RX4, Cond.code yX4_isPlace cX4_isPlace 2 (some .boolean), Cond.fieldLink RX4 19 "BroadSheet" "lips" "LBroadSheet$Lips;", Cond.methodLink RX4 43 yX2_places, Cond.instanceMethod yX2_places, Cond.selects RX2 yX2_places yX2_places, Cond.initialized RX2, Cond.code yX2_places cX2_places 1 (some .int), Cond.fieldLink RX2 18 "BroadSheet$Lips" "places" "I", Cond.methodLink RX4 39 yX4_within, Cond.static yX4_within, Cond.code yX4_within cX4_within 3 (some .boolean), Cond.methodLink RX4 59 yX4_isTime, Cond.static yX4_isTime, Cond.code yX4_isTime cX4_isTime 1 (some .boolean), Cond.methodLink RX4 62 yX0_count, Cond.instanceMethod yX0_count, Cond.selects RX0 yX0_count yX0_count, Cond.initialized RX0, Cond.code yX0_count cX0_count 1 (some .int)]
def wsX4_read_r2 : List Cond := [Cond.fieldLink RX0 34 "BroadSheet$Eye" "count" "I", Cond.methodLink RX4 65 yX0_add, Cond.instanceMethod yX0_add, Cond.selects RX0 yX0_add yX0_add, Cond.code yX0_add cX0_add 5 (some .boolean), Cond.fieldLink RX0 9 "BroadSheet$Eye" "times" "[I", Cond.fieldLink RX0 15 "BroadSheet$Eye" "places" "[I", Cond.fieldLink RX0 18 "BroadSheet$Eye" "values" "[I", Cond.fieldLink RX0 21 "BroadSheet$Eye" "fitting" "[Z", Cond.fieldLink RX0 38 "BroadSheet$Eye" "fittingCount" "I", Cond.methodLink RX0 41 yX0_knotOfTime, Cond.static yX0_knotOfTime, Cond.code yX0_knotOfTime cX0_knotOfTime 1 (some .int), Cond.methodLink RX0 45 yX0_fit, Cond.instanceMethod yX0_fit, Cond.selects RX0 yX0_fit yX0_fit, Cond.code yX0_fit cX0_fit 8 (some .boolean), Cond.fieldLink RX0 25 "BroadSheet$Eye" "group" "[I", Cond.fieldLink RX0 28 "BroadSheet$Eye" "height" "[I"]
def wsX4_read : List Cond := .code yX4_read cX4_read 4 (some .int) :: ((wsX4_read_r1 ++ wsX4_read_r2) ++ wsX40 ++ wsX20 ++ wsX00)
def wsX4_reading_r1 : List Cond := [Cond.fieldLink RX4 10 "BroadSheet" "eye" "LBroadSheet$Eye;", Cond.constant RX4 68 (-1000001), Cond.constant RX4 82 (-1000002), Cond.methodLink RX4 62 yX0_count, Cond.instanceMethod yX0_count, Cond.selects RX0 yX0_count yX0_count, Cond.initialized RX0, Cond.code yX0_count cX0_count 1 (some .int), Cond.fieldLink RX0 34 "BroadSheet$Eye" "count" "I", Cond.methodLink RX4 39 yX4_within, Cond.static yX4_within, Cond.initialized RX4, Cond.code yX4_within cX4_within 3 (some .boolean), Cond.methodLink RX4 69 yX0_timeOf, Cond.instanceMethod yX0_timeOf, Cond.selects RX0 yX0_timeOf yX0_timeOf, Cond.code yX0_timeOf cX0_timeOf 2 (some .int), Cond.fieldLink RX0 9 "BroadSheet$Eye" "times" "[I", Cond.methodLink RX4 73 yX0_placeOf, Cond.instanceMethod yX0_placeOf, Cond.selects RX0 yX0_placeOf yX0_placeOf, Cond.code yX0_placeOf cX0_placeOf 2 (some .int), Cond.fieldLink RX0 15 "BroadSheet$Eye" "places" "[I", Cond.methodLink RX4 76 yX0_valueOf]
def wsX4_reading_r2 : List Cond := [Cond.instanceMethod yX0_valueOf, Cond.selects RX0 yX0_valueOf yX0_valueOf, Cond.code yX0_valueOf cX0_valueOf 2 (some .int), Cond.fieldLink RX0 18 "BroadSheet$Eye" "values" "[I", Cond.methodLink RX4 79 yX0_isFitting, Cond.instanceMethod yX0_isFitting, Cond.selects RX0 yX0_isFitting yX0_isFitting, Cond.code yX0_isFitting cX0_isFitting 2 (some .boolean), Cond.fieldLink RX0 21 "BroadSheet$Eye" "fitting" "[Z"]
def wsX4_reading : List Cond := .code yX4_reading cX4_reading 3 (some .int) :: ((wsX4_reading_r1 ++ wsX4_reading_r2) ++ wsX40 ++ wsX00)
def wsX4_across_r1 : List Cond := [Cond.constant RX4 68 (-1000001), Cond.fieldLink RX4 10 "BroadSheet" "eye" "LBroadSheet$Eye;", Cond.constant RX4 89 (-1000005), Cond.methodLink RX4 55 yX4_isPlace, Cond.instanceMethod yX4_isPlace, Cond.selects RX4 yX4_isPlace yX4_isPlace, Cond.initialized RX4, Cond.code yX4_isPlace cX4_isPlace 2 (some .boolean), Cond.fieldLink RX4 19 "BroadSheet" "lips" "LBroadSheet$Lips;", Cond.methodLink RX4 43 yX2_places, Cond.instanceMethod yX2_places, Cond.selects RX2 yX2_places yX2_places, Cond.initialized RX2, Cond.code yX2_places cX2_places 1 (some .int), Cond.fieldLink RX2 18 "BroadSheet$Lips" "places" "I", Cond.methodLink RX4 39 yX4_within, Cond.static yX4_within, Cond.code yX4_within cX4_within 3 (some .boolean), Cond.methodLink RX4 83 yX0_hasAcross, Cond.instanceMethod yX0_hasAcross, Cond.selects RX0 yX0_hasAcross yX0_hasAcross, Cond.initialized RX0, Cond.code yX0_hasAcross cX0_hasAcross 2 (some .boolean), Cond.fieldLink RX0 25 "BroadSheet$Eye" "group" "[I"]
def wsX4_across_r2 : List Cond := [Cond.methodLink RX4 86 yX0_acrossOf, Cond.instanceMethod yX0_acrossOf, Cond.selects RX0 yX0_acrossOf yX0_acrossOf, Cond.code yX0_acrossOf cX0_acrossOf 2 (some .int), Cond.fieldLink RX0 28 "BroadSheet$Eye" "height" "[I"]
def wsX4_across : List Cond := .code yX4_across cX4_across 2 (some .int) :: ((wsX4_across_r1 ++ wsX4_across_r2) ++ wsX40 ++ wsX20 ++ wsX00)
def wsX4_along : List Cond := .code yX4_along cX4_along 3 (some .int) :: ([.constant RX4 68 (-1000001), .fieldLink RX4 10 "BroadSheet" "eye" "LBroadSheet$Eye;", .constant RX4 89 (-1000005), .methodLink RX4 59 yX4_isTime, .static yX4_isTime, .initialized RX4, .code yX4_isTime cX4_isTime 1 (some .boolean), .methodLink RX4 39 yX4_within, .static yX4_within, .code yX4_within cX4_within 3 (some .boolean), .methodLink RX4 90 yX0_timesHangTogether, .instanceMethod yX0_timesHangTogether, .selects RX0 yX0_timesHangTogether yX0_timesHangTogether, .initialized RX0, .code yX0_timesHangTogether cX0_timesHangTogether 3 (some .boolean), .fieldLink RX0 25 "BroadSheet$Eye" "group" "[I", .methodLink RX0 41 yX0_knotOfTime, .static yX0_knotOfTime, .code yX0_knotOfTime cX0_knotOfTime 1 (some .int), .methodLink RX4 94 yX0_moreAlong, .instanceMethod yX0_moreAlong, .selects RX0 yX0_moreAlong yX0_moreAlong, .code yX0_moreAlong cX0_moreAlong 3 (some .int), .fieldLink RX0 28 "BroadSheet$Eye" "height" "[I"] ++ wsX40 ++ wsX00)
def wsX4_groups : List Cond := .code yX4_groups cX4_groups 1 (some .int) :: ([.fieldLink RX4 10 "BroadSheet" "eye" "LBroadSheet$Eye;", .fieldLink RX4 19 "BroadSheet" "lips" "LBroadSheet$Lips;", .methodLink RX4 43 yX2_places, .instanceMethod yX2_places, .selects RX2 yX2_places yX2_places, .initialized RX2, .code yX2_places cX2_places 1 (some .int), .fieldLink RX2 18 "BroadSheet$Lips" "places" "I", .methodLink RX4 98 yX0_countGroups, .instanceMethod yX0_countGroups, .selects RX0 yX0_countGroups yX0_countGroups, .initialized RX0, .code yX0_countGroups cX0_countGroups 4 (some .int), .methodLink RX0 49 yX0_isFirstOfGroup, .instanceMethod yX0_isFirstOfGroup, .selects RX0 yX0_isFirstOfGroup yX0_isFirstOfGroup, .code yX0_isFirstOfGroup cX0_isFirstOfGroup 3 (some .boolean), .fieldLink RX0 25 "BroadSheet$Eye" "group" "[I"] ++ wsX40 ++ wsX20 ++ wsX00)
def wsX4_take_r1 : List Cond := [Cond.fieldLink RX4 19 "BroadSheet" "lips" "LBroadSheet$Lips;", Cond.fieldLink RX4 10 "BroadSheet" "eye" "LBroadSheet$Eye;", Cond.methodLink RX4 43 yX2_places, Cond.instanceMethod yX2_places, Cond.selects RX2 yX2_places yX2_places, Cond.initialized RX2, Cond.code yX2_places cX2_places 1 (some .int), Cond.fieldLink RX2 18 "BroadSheet$Lips" "places" "I", Cond.methodLink RX4 83 yX0_hasAcross, Cond.instanceMethod yX0_hasAcross, Cond.selects RX0 yX0_hasAcross yX0_hasAcross, Cond.initialized RX0, Cond.code yX0_hasAcross cX0_hasAcross 2 (some .boolean), Cond.fieldLink RX0 25 "BroadSheet$Eye" "group" "[I", Cond.methodLink RX4 86 yX0_acrossOf, Cond.instanceMethod yX0_acrossOf, Cond.selects RX0 yX0_acrossOf yX0_acrossOf, Cond.code yX0_acrossOf cX0_acrossOf 2 (some .int), Cond.fieldLink RX0 28 "BroadSheet$Eye" "height" "[I", Cond.methodLink RX4 39 yX4_within, Cond.static yX4_within, Cond.initialized RX4, Cond.code yX4_within cX4_within 3 (some .boolean), Cond.methodLink RX4 101 yX2_putBase]
def wsX4_take_r2 : List Cond := [Cond.instanceMethod yX2_putBase, Cond.selects RX2 yX2_putBase yX2_putBase, Cond.code yX2_putBase cX2_putBase 3 none, Cond.fieldLink RX2 9 "BroadSheet$Lips" "bases" "[I"]
def wsX4_take : List Cond := .code yX4_take cX4_take 3 (some .int) :: ((wsX4_take_r1 ++ wsX4_take_r2) ++ wsX40 ++ wsX20 ++ wsX00)
def wsX4_clear : List Cond := .code yX4_clear cX4_clear 2 (some .int) :: ([.fieldLink RX4 10 "BroadSheet" "eye" "LBroadSheet$Eye;", .methodLink RX4 62 yX0_count, .instanceMethod yX0_count, .selects RX0 yX0_count yX0_count, .initialized RX0, .code yX0_count cX0_count 1 (some .int), .fieldLink RX0 34 "BroadSheet$Eye" "count" "I", .methodLink RX4 47 yX0_forget, .instanceMethod yX0_forget, .selects RX0 yX0_forget yX0_forget, .code yX0_forget cX0_forget 2 none, .fieldLink RX0 38 "BroadSheet$Eye" "fittingCount" "I", .fieldLink RX0 25 "BroadSheet$Eye" "group" "[I", .fieldLink RX0 28 "BroadSheet$Eye" "height" "[I"] ++ wsX40 ++ wsX00)
def wsX4_laws : List Cond := .code yX4_laws cX4_laws 3 (some .int) :: ([.fieldLink RX4 19 "BroadSheet" "lips" "LBroadSheet$Lips;", .methodLink RX4 39 yX4_within, .static yX4_within, .initialized RX4, .code yX4_within cX4_within 3 (some .boolean), .methodLink RX4 105 yX2_isLawful, .instanceMethod yX2_isLawful, .selects RX2 yX2_isLawful yX2_isLawful, .initialized RX2, .code yX2_isLawful cX2_isLawful 4 (some .boolean), .fieldLink RX2 18 "BroadSheet$Lips" "places" "I", .fieldLink RX2 15 "BroadSheet$Lips" "settings" "[I", .methodLink RX2 47 Lib.Math.abs.name, .static Lib.Math.abs.name, .initialized "java/lang/Math", .code Lib.Math.abs.name Lib.Math.abs.code 1 (some .int), .methodLink RX4 108 yX2_putLaws, .instanceMethod yX2_putLaws, .selects RX2 yX2_putLaws yX2_putLaws, .code yX2_putLaws cX2_putLaws 3 none, .fieldLink RX2 22 "BroadSheet$Lips" "next" "I", .fieldLink RX2 25 "BroadSheet$Lips" "bend" "I"] ++ wsX40 ++ wsX20)
def wsX4_spread : List Cond := .code yX4_spread cX4_spread 3 (some .int) :: ([.fieldLink RX4 19 "BroadSheet" "lips" "LBroadSheet$Lips;", .methodLink RX4 39 yX4_within, .static yX4_within, .initialized RX4, .code yX4_within cX4_within 3 (some .boolean), .methodLink RX4 111 yX2_putSpread, .instanceMethod yX2_putSpread, .selects RX2 yX2_putSpread yX2_putSpread, .initialized RX2, .code yX2_putSpread cX2_putSpread 3 none, .fieldLink RX2 28 "BroadSheet$Lips" "main" "I", .fieldLink RX2 40 "BroadSheet$Lips" "side" "I"] ++ wsX40 ++ wsX20)
def wsX4_base : List Cond := .code yX4_base cX4_base 3 (some .int) :: ([.fieldLink RX4 19 "BroadSheet" "lips" "LBroadSheet$Lips;", .methodLink RX4 55 yX4_isPlace, .instanceMethod yX4_isPlace, .selects RX4 yX4_isPlace yX4_isPlace, .initialized RX4, .code yX4_isPlace cX4_isPlace 2 (some .boolean), .methodLink RX4 43 yX2_places, .instanceMethod yX2_places, .selects RX2 yX2_places yX2_places, .initialized RX2, .code yX2_places cX2_places 1 (some .int), .fieldLink RX2 18 "BroadSheet$Lips" "places" "I", .methodLink RX4 39 yX4_within, .static yX4_within, .code yX4_within cX4_within 3 (some .boolean), .methodLink RX4 101 yX2_putBase, .instanceMethod yX2_putBase, .selects RX2 yX2_putBase yX2_putBase, .code yX2_putBase cX2_putBase 3 none, .fieldLink RX2 9 "BroadSheet$Lips" "bases" "[I"] ++ wsX40 ++ wsX20)
def wsX4_set_r1 : List Cond := [Cond.fieldLink RX4 19 "BroadSheet" "lips" "LBroadSheet$Lips;", Cond.methodLink RX4 55 yX4_isPlace, Cond.instanceMethod yX4_isPlace, Cond.selects RX4 yX4_isPlace yX4_isPlace, Cond.initialized RX4, Cond.code yX4_isPlace cX4_isPlace 2 (some .boolean), Cond.methodLink RX4 43 yX2_places, Cond.instanceMethod yX2_places, Cond.selects RX2 yX2_places yX2_places, Cond.initialized RX2, Cond.code yX2_places cX2_places 1 (some .int), Cond.fieldLink RX2 18 "BroadSheet$Lips" "places" "I", Cond.methodLink RX4 39 yX4_within, Cond.static yX4_within, Cond.code yX4_within cX4_within 3 (some .boolean), Cond.methodLink RX4 114 yX2_trySetting, Cond.instanceMethod yX2_trySetting, Cond.selects RX2 yX2_trySetting yX2_trySetting, Cond.code yX2_trySetting cX2_trySetting 4 (some .boolean), Cond.fieldLink RX2 15 "BroadSheet$Lips" "settings" "[I", Cond.fieldLink RX2 22 "BroadSheet$Lips" "next" "I", Cond.fieldLink RX2 25 "BroadSheet$Lips" "bend" "I", Cond.methodLink RX2 43 yX2_isLawful, Cond.instanceMethod yX2_isLawful]
def wsX4_set_r2 : List Cond := [Cond.selects RX2 yX2_isLawful yX2_isLawful, Cond.code yX2_isLawful cX2_isLawful 4 (some .boolean), Cond.methodLink RX2 47 Lib.Math.abs.name, Cond.static Lib.Math.abs.name, Cond.initialized "java/lang/Math", Cond.code Lib.Math.abs.name Lib.Math.abs.code 1 (some .int)]
def wsX4_set : List Cond := .code yX4_set cX4_set 3 (some .int) :: ((wsX4_set_r1 ++ wsX4_set_r2) ++ wsX40 ++ wsX20)
def wsX4_about_r1 : List Cond := [Cond.constant RX4 68 (-1000001), Cond.fieldLink RX4 19 "BroadSheet" "lips" "LBroadSheet$Lips;", Cond.constant RX4 82 (-1000002), Cond.methodLink RX4 55 yX4_isPlace, Cond.instanceMethod yX4_isPlace, Cond.selects RX4 yX4_isPlace yX4_isPlace, Cond.initialized RX4, Cond.code yX4_isPlace cX4_isPlace 2 (some .boolean), Cond.methodLink RX4 43 yX2_places, Cond.instanceMethod yX2_places, Cond.selects RX2 yX2_places yX2_places, Cond.initialized RX2, Cond.code yX2_places cX2_places 1 (some .int), Cond.fieldLink RX2 18 "BroadSheet$Lips" "places" "I", Cond.methodLink RX4 39 yX4_within, Cond.static yX4_within, Cond.code yX4_within cX4_within 3 (some .boolean), Cond.methodLink RX4 117 yX2_settingOf, Cond.instanceMethod yX2_settingOf, Cond.selects RX2 yX2_settingOf yX2_settingOf, Cond.code yX2_settingOf cX2_settingOf 2 (some .int), Cond.fieldLink RX2 15 "BroadSheet$Lips" "settings" "[I", Cond.methodLink RX4 120 yX2_baseOf, Cond.instanceMethod yX2_baseOf]
def wsX4_about_r2 : List Cond := [Cond.selects RX2 yX2_baseOf yX2_baseOf, Cond.code yX2_baseOf cX2_baseOf 2 (some .int), Cond.fieldLink RX2 9 "BroadSheet$Lips" "bases" "[I", Cond.methodLink RX4 123 yX2_errorOf, Cond.instanceMethod yX2_errorOf, Cond.selects RX2 yX2_errorOf yX2_errorOf, Cond.code yX2_errorOf cX2_errorOf 3 (some .int), Cond.fieldLink RX2 28 "BroadSheet$Lips" "main" "I", Cond.fieldLink RX2 40 "BroadSheet$Lips" "side" "I"]
def wsX4_about : List Cond := .code yX4_about cX4_about 3 (some .int) :: ((wsX4_about_r1 ++ wsX4_about_r2) ++ wsX40 ++ wsX20)
def wsX4_uneven_r1 : List Cond := [Cond.fieldLink RX4 19 "BroadSheet" "lips" "LBroadSheet$Lips;", Cond.methodLink RX4 39 yX4_within, Cond.static yX4_within, Cond.initialized RX4, Cond.code yX4_within cX4_within 3 (some .boolean), Cond.methodLink RX4 126 yX2_unevenness, Cond.instanceMethod yX2_unevenness, Cond.selects RX2 yX2_unevenness yX2_unevenness, Cond.initialized RX2, Cond.code yX2_unevenness cX2_unevenness 4 (some .int), Cond.fieldLink RX2 18 "BroadSheet$Lips" "places" "I", Cond.methodLink RX2 56 yX2_sizeOf, Cond.instanceMethod yX2_sizeOf, Cond.selects RX2 yX2_sizeOf yX2_sizeOf, Cond.code yX2_sizeOf cX2_sizeOf 2 (some .int), Cond.methodLink RX2 47 Lib.Math.abs.name, Cond.static Lib.Math.abs.name, Cond.initialized "java/lang/Math", Cond.code Lib.Math.abs.name Lib.Math.abs.code 1 (some .int), Cond.methodLink RX2 53 yX2_errorOf, Cond.instanceMethod yX2_errorOf, Cond.selects RX2 yX2_errorOf yX2_errorOf, Cond.code yX2_errorOf cX2_errorOf 3 (some .int), Cond.fieldLink RX2 9 "BroadSheet$Lips" "bases" "[I"]
def wsX4_uneven_r2 : List Cond := [Cond.fieldLink RX2 28 "BroadSheet$Lips" "main" "I", Cond.fieldLink RX2 15 "BroadSheet$Lips" "settings" "[I", Cond.fieldLink RX2 40 "BroadSheet$Lips" "side" "I", Cond.methodLink RX2 59 yX2_together, Cond.static yX2_together, Cond.code yX2_together cX2_together 3 (some .int), Cond.methodLink RX2 63 Lib.Math.max.name, Cond.static Lib.Math.max.name, Cond.code Lib.Math.max.name Lib.Math.max.code 2 (some .int)]
def wsX4_uneven : List Cond := .code yX4_uneven cX4_uneven 2 (some .int) :: ((wsX4_uneven_r1 ++ wsX4_uneven_r2) ++ wsX40 ++ wsX20)
def wsX4_best_r1 : List Cond := [Cond.fieldLink RX4 19 "BroadSheet" "lips" "LBroadSheet$Lips;", Cond.methodLink RX4 39 yX4_within, Cond.static yX4_within, Cond.initialized RX4, Cond.code yX4_within cX4_within 3 (some .boolean), Cond.methodLink RX4 130 yX2_settle, Cond.instanceMethod yX2_settle, Cond.selects RX2 yX2_settle yX2_settle, Cond.initialized RX2, Cond.code yX2_settle cX2_settle 5 (some .int), Cond.fieldLink RX2 18 "BroadSheet$Lips" "places" "I", Cond.fieldLink RX2 15 "BroadSheet$Lips" "settings" "[I", Cond.methodLink RX2 67 yX2_weighLast, Cond.instanceMethod yX2_weighLast, Cond.selects RX2 yX2_weighLast yX2_weighLast, Cond.code yX2_weighLast cX2_weighLast 4 none, Cond.fieldLink RX2 31 "BroadSheet$Lips" "rest" "[I", Cond.fieldLink RX2 9 "BroadSheet$Lips" "bases" "[I", Cond.fieldLink RX2 28 "BroadSheet$Lips" "main" "I", Cond.fieldLink RX2 40 "BroadSheet$Lips" "side" "I", Cond.methodLink RX2 47 Lib.Math.abs.name, Cond.static Lib.Math.abs.name, Cond.initialized "java/lang/Math", Cond.code Lib.Math.abs.name Lib.Math.abs.code 1 (some .int)]
def wsX4_best_r2 : List Cond := [Cond.methodLink RX2 82 yX2_spot, Cond.static yX2_spot, Cond.code yX2_spot cX2_spot 3 (some .int), Cond.methodLink RX2 70 yX2_weigh, Cond.instanceMethod yX2_weigh, Cond.selects RX2 yX2_weigh yX2_weigh, Cond.code yX2_weigh cX2_weigh 7 none, Cond.fieldLink RX2 22 "BroadSheet$Lips" "next" "I", Cond.methodLink RX2 63 Lib.Math.max.name, Cond.static Lib.Math.max.name, Cond.code Lib.Math.max.name Lib.Math.max.code 2 (some .int), Cond.methodLink RX2 86 Lib.Math.min.name, Cond.static Lib.Math.min.name, Cond.code Lib.Math.min.name Lib.Math.min.code 2 (some .int), Cond.methodLink RX2 89 yX2_leastRest, Cond.instanceMethod yX2_leastRest, Cond.selects RX2 yX2_leastRest yX2_leastRest, Cond.code yX2_leastRest cX2_leastRest 14 (some .int), Cond.constant RX2 92 (1000000), Cond.methodLink RX2 93 yX2_highestAfter, Cond.instanceMethod yX2_highestAfter, Cond.selects RX2 yX2_highestAfter yX2_highestAfter, Cond.code yX2_highestAfter cX2_highestAfter 3 (some .int), Cond.fieldLink RX2 25 "BroadSheet$Lips" "bend" "I"]
def wsX4_best_r3 : List Cond := [Cond.methodLink RX2 96 yX2_lowestAfter, Cond.instanceMethod yX2_lowestAfter, Cond.selects RX2 yX2_lowestAfter yX2_lowestAfter, Cond.code yX2_lowestAfter cX2_lowestAfter 3 (some .int), Cond.methodLink RX2 74 yX2_settleFirstTwo, Cond.instanceMethod yX2_settleFirstTwo, Cond.selects RX2 yX2_settleFirstTwo yX2_settleFirstTwo, Cond.code yX2_settleFirstTwo cX2_settleFirstTwo 8 (some .int), Cond.methodLink RX2 59 yX2_together, Cond.static yX2_together, Cond.code yX2_together cX2_together 3 (some .int), Cond.methodLink RX2 56 yX2_sizeOf, Cond.instanceMethod yX2_sizeOf, Cond.selects RX2 yX2_sizeOf yX2_sizeOf, Cond.code yX2_sizeOf cX2_sizeOf 2 (some .int), Cond.methodLink RX2 53 yX2_errorOf, Cond.instanceMethod yX2_errorOf, Cond.selects RX2 yX2_errorOf yX2_errorOf, Cond.code yX2_errorOf cX2_errorOf 3 (some .int), Cond.methodLink RX2 78 yX2_lesserAfter, Cond.instanceMethod yX2_lesserAfter, Cond.selects RX2 yX2_lesserAfter yX2_lesserAfter, Cond.code yX2_lesserAfter cX2_lesserAfter 12 (some .int)]
def wsX4_best : List Cond := .code yX4_best cX4_best 2 (some .int) :: ((wsX4_best_r1 ++ (wsX4_best_r2 ++ wsX4_best_r3)) ++ wsX40 ++ wsX20)
def wsX4_kind : List Cond := .code yX4_kind cX4_kind 4 (some .int) :: ([.fieldLink RX4 28 "BroadSheet" "sets" "LBroadSheet$Sets;", .methodLink RX4 39 yX4_within, .static yX4_within, .initialized RX4, .code yX4_within cX4_within 3 (some .boolean), .methodLink RX4 133 yX3_count, .instanceMethod yX3_count, .selects RX3 yX3_count yX3_count, .initialized RX3, .code yX3_count cX3_count 1 (some .int), .fieldLink RX3 31 "BroadSheet$Sets" "count" "I", .methodLink RX4 134 yX3_add, .instanceMethod yX3_add, .selects RX3 yX3_add yX3_add, .code yX3_add cX3_add 4 (some .int), .fieldLink RX3 9 "BroadSheet$Sets" "widths" "[I", .fieldLink RX3 15 "BroadSheet$Sets" "prices" "[I", .fieldLink RX3 18 "BroadSheet$Sets" "bounds" "[I"] ++ wsX40 ++ wsX30)
def wsX4_canLie_r1 : List Cond := [Cond.fieldLink RX4 28 "BroadSheet" "sets" "LBroadSheet$Sets;", Cond.methodLink RX4 133 yX3_count, Cond.instanceMethod yX3_count, Cond.selects RX3 yX3_count yX3_count, Cond.initialized RX3, Cond.code yX3_count cX3_count 1 (some .int), Cond.fieldLink RX3 31 "BroadSheet$Sets" "count" "I", Cond.methodLink RX4 39 yX4_within, Cond.static yX4_within, Cond.initialized RX4, Cond.code yX4_within cX4_within 3 (some .boolean), Cond.methodLink RX4 55 yX4_isPlace, Cond.instanceMethod yX4_isPlace, Cond.selects RX4 yX4_isPlace yX4_isPlace, Cond.code yX4_isPlace cX4_isPlace 2 (some .boolean), Cond.fieldLink RX4 19 "BroadSheet" "lips" "LBroadSheet$Lips;", Cond.methodLink RX4 43 yX2_places, Cond.instanceMethod yX2_places, Cond.selects RX2 yX2_places yX2_places, Cond.initialized RX2, Cond.code yX2_places cX2_places 1 (some .int), Cond.fieldLink RX2 18 "BroadSheet$Lips" "places" "I", Cond.methodLink RX4 137 yX3_lies, Cond.instanceMethod yX3_lies]
def wsX4_canLie_r2 : List Cond := [Cond.selects RX3 yX3_lies yX3_lies, Cond.code yX3_lies cX3_lies 5 (some .boolean), Cond.fieldLink RX3 9 "BroadSheet$Sets" "widths" "[I", Cond.fieldLink RX3 27 "BroadSheet$Sets" "lips" "LBroadSheet$Lips;", Cond.fieldLink RX3 18 "BroadSheet$Sets" "bounds" "[I", Cond.methodLink RX3 35 yX2_places, Cond.methodLink RX3 41 yX2_sizeOf, Cond.instanceMethod yX2_sizeOf, Cond.selects RX2 yX2_sizeOf yX2_sizeOf, Cond.code yX2_sizeOf cX2_sizeOf 2 (some .int), Cond.methodLink RX2 47 Lib.Math.abs.name, Cond.static Lib.Math.abs.name, Cond.initialized "java/lang/Math", Cond.code Lib.Math.abs.name Lib.Math.abs.code 1 (some .int), Cond.methodLink RX2 53 yX2_errorOf, Cond.instanceMethod yX2_errorOf, Cond.selects RX2 yX2_errorOf yX2_errorOf, Cond.code yX2_errorOf cX2_errorOf 3 (some .int), Cond.fieldLink RX2 9 "BroadSheet$Lips" "bases" "[I", Cond.fieldLink RX2 28 "BroadSheet$Lips" "main" "I", Cond.fieldLink RX2 15 "BroadSheet$Lips" "settings" "[I", Cond.fieldLink RX2 40 "BroadSheet$Lips" "side" "I"]
def wsX4_canLie : List Cond := .code yX4_canLie cX4_canLie 3 (some .int) :: ((wsX4_canLie_r1 ++ wsX4_canLie_r2) ++ wsX40 ++ wsX30 ++ wsX20)
def wsX4_cut_r1 : List Cond := [Cond.fieldLink RX4 28 "BroadSheet" "sets" "LBroadSheet$Sets;", Cond.methodLink RX4 140 yX3_plan, Cond.instanceMethod yX3_plan, Cond.selects RX3 yX3_plan yX3_plan, Cond.initialized RX3, Cond.code yX3_plan cX3_plan 3 (some .int), Cond.fieldLink RX3 27 "BroadSheet$Sets" "lips" "LBroadSheet$Lips;", Cond.fieldLink RX3 21 "BroadSheet$Sets" "worth" "[I", Cond.methodLink RX3 35 yX2_places, Cond.instanceMethod yX2_places, Cond.selects RX2 yX2_places yX2_places, Cond.initialized RX2, Cond.code yX2_places cX2_places 1 (some .int), Cond.fieldLink RX2 18 "BroadSheet$Lips" "places" "I", Cond.methodLink RX3 45 yX3_weigh, Cond.instanceMethod yX3_weigh, Cond.selects RX3 yX3_weigh yX3_weigh, Cond.code yX3_weigh cX3_weigh 6 none, Cond.fieldLink RX3 31 "BroadSheet$Sets" "count" "I", Cond.fieldLink RX3 15 "BroadSheet$Sets" "prices" "[I", Cond.fieldLink RX3 9 "BroadSheet$Sets" "widths" "[I", Cond.fieldLink RX3 24 "BroadSheet$Sets" "begins" "[I", Cond.methodLink RX3 52 yX3_lies, Cond.instanceMethod yX3_lies]
def wsX4_cut_r2 : List Cond := [Cond.selects RX3 yX3_lies yX3_lies, Cond.code yX3_lies cX3_lies 5 (some .boolean), Cond.fieldLink RX3 18 "BroadSheet$Sets" "bounds" "[I", Cond.methodLink RX3 41 yX2_sizeOf, Cond.instanceMethod yX2_sizeOf, Cond.selects RX2 yX2_sizeOf yX2_sizeOf, Cond.code yX2_sizeOf cX2_sizeOf 2 (some .int), Cond.methodLink RX2 47 Lib.Math.abs.name, Cond.static Lib.Math.abs.name, Cond.initialized "java/lang/Math", Cond.code Lib.Math.abs.name Lib.Math.abs.code 1 (some .int), Cond.methodLink RX2 53 yX2_errorOf, Cond.instanceMethod yX2_errorOf, Cond.selects RX2 yX2_errorOf yX2_errorOf, Cond.code yX2_errorOf cX2_errorOf 3 (some .int), Cond.fieldLink RX2 9 "BroadSheet$Lips" "bases" "[I", Cond.fieldLink RX2 28 "BroadSheet$Lips" "main" "I", Cond.fieldLink RX2 15 "BroadSheet$Lips" "settings" "[I", Cond.fieldLink RX2 40 "BroadSheet$Lips" "side" "I", Cond.methodLink RX3 49 yX3_dropCovered, Cond.instanceMethod yX3_dropCovered, Cond.selects RX3 yX3_dropCovered yX3_dropCovered, Cond.code yX3_dropCovered cX3_dropCovered 4 none]
def wsX4_cut : List Cond := .code yX4_cut cX4_cut 1 (some .int) :: ((wsX4_cut_r1 ++ wsX4_cut_r2) ++ wsX40 ++ wsX30 ++ wsX20)
def wsX4_cutAt_r1 : List Cond := [Cond.fieldLink RX4 28 "BroadSheet" "sets" "LBroadSheet$Sets;", Cond.methodLink RX4 55 yX4_isPlace, Cond.instanceMethod yX4_isPlace, Cond.selects RX4 yX4_isPlace yX4_isPlace, Cond.initialized RX4, Cond.code yX4_isPlace cX4_isPlace 2 (some .boolean), Cond.fieldLink RX4 19 "BroadSheet" "lips" "LBroadSheet$Lips;", Cond.methodLink RX4 43 yX2_places, Cond.instanceMethod yX2_places, Cond.selects RX2 yX2_places yX2_places, Cond.initialized RX2, Cond.code yX2_places cX2_places 1 (some .int), Cond.fieldLink RX2 18 "BroadSheet$Lips" "places" "I", Cond.methodLink RX4 39 yX4_within, Cond.static yX4_within, Cond.code yX4_within cX4_within 3 (some .boolean), Cond.methodLink RX4 140 yX3_plan, Cond.instanceMethod yX3_plan, Cond.selects RX3 yX3_plan yX3_plan, Cond.initialized RX3, Cond.code yX3_plan cX3_plan 3 (some .int), Cond.fieldLink RX3 27 "BroadSheet$Sets" "lips" "LBroadSheet$Lips;", Cond.fieldLink RX3 21 "BroadSheet$Sets" "worth" "[I", Cond.methodLink RX3 35 yX2_places]
def wsX4_cutAt_r2 : List Cond := [Cond.methodLink RX3 45 yX3_weigh, Cond.instanceMethod yX3_weigh, Cond.selects RX3 yX3_weigh yX3_weigh, Cond.code yX3_weigh cX3_weigh 6 none, Cond.fieldLink RX3 31 "BroadSheet$Sets" "count" "I", Cond.fieldLink RX3 15 "BroadSheet$Sets" "prices" "[I", Cond.fieldLink RX3 9 "BroadSheet$Sets" "widths" "[I", Cond.fieldLink RX3 24 "BroadSheet$Sets" "begins" "[I", Cond.methodLink RX3 52 yX3_lies, Cond.instanceMethod yX3_lies, Cond.selects RX3 yX3_lies yX3_lies, Cond.code yX3_lies cX3_lies 5 (some .boolean), Cond.fieldLink RX3 18 "BroadSheet$Sets" "bounds" "[I", Cond.methodLink RX3 41 yX2_sizeOf, Cond.instanceMethod yX2_sizeOf, Cond.selects RX2 yX2_sizeOf yX2_sizeOf, Cond.code yX2_sizeOf cX2_sizeOf 2 (some .int), Cond.methodLink RX2 47 Lib.Math.abs.name, Cond.static Lib.Math.abs.name, Cond.initialized "java/lang/Math", Cond.code Lib.Math.abs.name Lib.Math.abs.code 1 (some .int), Cond.methodLink RX2 53 yX2_errorOf, Cond.instanceMethod yX2_errorOf, Cond.selects RX2 yX2_errorOf yX2_errorOf]
def wsX4_cutAt_r3 : List Cond := [Cond.code yX2_errorOf cX2_errorOf 3 (some .int), Cond.fieldLink RX2 9 "BroadSheet$Lips" "bases" "[I", Cond.fieldLink RX2 28 "BroadSheet$Lips" "main" "I", Cond.fieldLink RX2 15 "BroadSheet$Lips" "settings" "[I", Cond.fieldLink RX2 40 "BroadSheet$Lips" "side" "I", Cond.methodLink RX3 49 yX3_dropCovered, Cond.instanceMethod yX3_dropCovered, Cond.selects RX3 yX3_dropCovered yX3_dropCovered, Cond.code yX3_dropCovered cX3_dropCovered 4 none, Cond.methodLink RX4 143 yX3_plannedAt, Cond.instanceMethod yX3_plannedAt, Cond.selects RX3 yX3_plannedAt yX3_plannedAt, Cond.code yX3_plannedAt cX3_plannedAt 2 (some .int)]
def wsX4_cutAt : List Cond := .code yX4_cutAt cX4_cutAt 2 (some .int) :: ((wsX4_cutAt_r1 ++ (wsX4_cutAt_r2 ++ wsX4_cutAt_r3)) ++ wsX40 ++ wsX20 ++ wsX30)
def wsX4_grade : List Cond := .code yX4_grade cX4_grade 1 (some .int) :: ([.fieldLink RX4 35 "BroadSheet" "grades" "LBroadSheet$Grades;", .methodLink RX4 146 yX1_count, .instanceMethod yX1_count, .selects RX1 yX1_count yX1_count, .initialized RX1, .code yX1_count cX1_count 1 (some .int), .fieldLink RX1 24 "BroadSheet$Grades" "count" "I", .methodLink RX4 147 yX1_add, .instanceMethod yX1_add, .selects RX1 yX1_add yX1_add, .code yX1_add cX1_add 1 (some .int), .fieldLink RX1 28 "BroadSheet$Grades" "weighed" "Z"] ++ wsX40 ++ wsX10)
def wsX4_isGrade : List Cond := .code yX4_isGrade cX4_isGrade 2 (some .boolean) :: ([.fieldLink RX4 35 "BroadSheet" "grades" "LBroadSheet$Grades;", .methodLink RX4 146 yX1_count, .instanceMethod yX1_count, .selects RX1 yX1_count yX1_count, .initialized RX1, .code yX1_count cX1_count 1 (some .int), .fieldLink RX1 24 "BroadSheet$Grades" "count" "I", .methodLink RX4 39 yX4_within, .static yX4_within, .initialized RX4, .code yX4_within cX4_within 3 (some .boolean)] ++ wsX40 ++ wsX10)
def wsX4_cost_r1 : List Cond := [Cond.fieldLink RX4 35 "BroadSheet" "grades" "LBroadSheet$Grades;", Cond.methodLink RX4 149 yX4_isGrade, Cond.instanceMethod yX4_isGrade, Cond.selects RX4 yX4_isGrade yX4_isGrade, Cond.initialized RX4, Cond.code yX4_isGrade cX4_isGrade 2 (some .boolean), Cond.methodLink RX4 146 yX1_count, Cond.instanceMethod yX1_count, Cond.selects RX1 yX1_count yX1_count, Cond.initialized RX1, Cond.code yX1_count cX1_count 1 (some .int), Cond.fieldLink RX1 24 "BroadSheet$Grades" "count" "I", Cond.methodLink RX4 39 yX4_within, Cond.static yX4_within, Cond.code yX4_within cX4_within 3 (some .boolean), Cond.methodLink RX4 152 yX1_putCost, Cond.instanceMethod yX1_putCost, Cond.selects RX1 yX1_putCost yX1_putCost, Cond.code yX1_putCost cX1_putCost 5 (some .int), Cond.fieldLink RX1 9 "BroadSheet$Grades" "costs" "[I", Cond.fieldLink RX1 28 "BroadSheet$Grades" "weighed" "Z", Cond.methodLink RX1 32 yX1_costOf, Cond.instanceMethod yX1_costOf, Cond.selects RX1 yX1_costOf yX1_costOf]
def wsX4_cost_r2 : List Cond := [Cond.code yX1_costOf cX1_costOf 3 (some .int)]
def wsX4_cost : List Cond := .code yX4_cost cX4_cost 4 (some .int) :: ((wsX4_cost_r1 ++ wsX4_cost_r2) ++ wsX40 ++ wsX10)
def wsX4_tour_r1 : List Cond := [Cond.fieldLink RX4 35 "BroadSheet" "grades" "LBroadSheet$Grades;", Cond.methodLink RX4 149 yX4_isGrade, Cond.instanceMethod yX4_isGrade, Cond.selects RX4 yX4_isGrade yX4_isGrade, Cond.initialized RX4, Cond.code yX4_isGrade cX4_isGrade 2 (some .boolean), Cond.methodLink RX4 146 yX1_count, Cond.instanceMethod yX1_count, Cond.selects RX1 yX1_count yX1_count, Cond.initialized RX1, Cond.code yX1_count cX1_count 1 (some .int), Cond.fieldLink RX1 24 "BroadSheet$Grades" "count" "I", Cond.methodLink RX4 39 yX4_within, Cond.static yX4_within, Cond.code yX4_within cX4_within 3 (some .boolean), Cond.methodLink RX4 155 yX1_leastCosts, Cond.instanceMethod yX1_leastCosts, Cond.selects RX1 yX1_leastCosts yX1_leastCosts, Cond.code yX1_leastCosts cX1_leastCosts 2 (some .int), Cond.methodLink RX1 36 yX1_weighAll, Cond.instanceMethod yX1_weighAll, Cond.selects RX1 yX1_weighAll yX1_weighAll, Cond.code yX1_weighAll cX1_weighAll 3 none, Cond.fieldLink RX1 28 "BroadSheet$Grades" "weighed" "Z"]
def wsX4_tour_r2 : List Cond := [Cond.fieldLink RX1 15 "BroadSheet$Grades" "rest" "[I", Cond.methodLink RX1 52 yX1_has, Cond.static yX1_has, Cond.code yX1_has cX1_has 2 (some .boolean), Cond.methodLink RX1 46 yX1_lesserStep, Cond.instanceMethod yX1_lesserStep, Cond.selects RX1 yX1_lesserStep yX1_lesserStep, Cond.code yX1_lesserStep cX1_lesserStep 7 (some .int), Cond.constant RX1 60 (1000000), Cond.methodLink RX1 56 yX1_throughStep, Cond.instanceMethod yX1_throughStep, Cond.selects RX1 yX1_throughStep yX1_throughStep, Cond.code yX1_throughStep cX1_throughStep 4 (some .int), Cond.methodLink RX1 32 yX1_costOf, Cond.instanceMethod yX1_costOf, Cond.selects RX1 yX1_costOf yX1_costOf, Cond.code yX1_costOf cX1_costOf 3 (some .int), Cond.fieldLink RX1 9 "BroadSheet$Grades" "costs" "[I", Cond.methodLink RX1 49 yX1_without, Cond.static yX1_without, Cond.code yX1_without cX1_without 2 (some .int), Cond.methodLink RX1 43 yX1_restOf, Cond.instanceMethod yX1_restOf, Cond.selects RX1 yX1_restOf yX1_restOf]
def wsX4_tour_r3 : List Cond := [Cond.code yX1_restOf cX1_restOf 3 (some .int), Cond.methodLink RX1 39 yX1_allBut, Cond.instanceMethod yX1_allBut, Cond.selects RX1 yX1_allBut yX1_allBut, Cond.code yX1_allBut cX1_allBut 2 (some .int)]
def wsX4_tour : List Cond := .code yX4_tour cX4_tour 2 (some .int) :: ((wsX4_tour_r1 ++ (wsX4_tour_r2 ++ wsX4_tour_r3)) ++ wsX40 ++ wsX10)
def wsX4_tourAt_r1 : List Cond := [Cond.fieldLink RX4 35 "BroadSheet" "grades" "LBroadSheet$Grades;", Cond.methodLink RX4 149 yX4_isGrade, Cond.instanceMethod yX4_isGrade, Cond.selects RX4 yX4_isGrade yX4_isGrade, Cond.initialized RX4, Cond.code yX4_isGrade cX4_isGrade 2 (some .boolean), Cond.methodLink RX4 146 yX1_count, Cond.instanceMethod yX1_count, Cond.selects RX1 yX1_count yX1_count, Cond.initialized RX1, Cond.code yX1_count cX1_count 1 (some .int), Cond.fieldLink RX1 24 "BroadSheet$Grades" "count" "I", Cond.methodLink RX4 39 yX4_within, Cond.static yX4_within, Cond.code yX4_within cX4_within 3 (some .boolean), Cond.methodLink RX4 158 yX1_stepOf, Cond.instanceMethod yX1_stepOf, Cond.selects RX1 yX1_stepOf yX1_stepOf, Cond.code yX1_stepOf cX1_stepOf 6 (some .int), Cond.methodLink RX1 36 yX1_weighAll, Cond.instanceMethod yX1_weighAll, Cond.selects RX1 yX1_weighAll yX1_weighAll, Cond.code yX1_weighAll cX1_weighAll 3 none, Cond.fieldLink RX1 28 "BroadSheet$Grades" "weighed" "Z"]
def wsX4_tourAt_r2 : List Cond := [Cond.fieldLink RX1 15 "BroadSheet$Grades" "rest" "[I", Cond.methodLink RX1 52 yX1_has, Cond.static yX1_has, Cond.code yX1_has cX1_has 2 (some .boolean), Cond.methodLink RX1 46 yX1_lesserStep, Cond.instanceMethod yX1_lesserStep, Cond.selects RX1 yX1_lesserStep yX1_lesserStep, Cond.code yX1_lesserStep cX1_lesserStep 7 (some .int), Cond.constant RX1 60 (1000000), Cond.methodLink RX1 56 yX1_throughStep, Cond.instanceMethod yX1_throughStep, Cond.selects RX1 yX1_throughStep yX1_throughStep, Cond.code yX1_throughStep cX1_throughStep 4 (some .int), Cond.methodLink RX1 32 yX1_costOf, Cond.instanceMethod yX1_costOf, Cond.selects RX1 yX1_costOf yX1_costOf, Cond.code yX1_costOf cX1_costOf 3 (some .int), Cond.fieldLink RX1 9 "BroadSheet$Grades" "costs" "[I", Cond.methodLink RX1 49 yX1_without, Cond.static yX1_without, Cond.code yX1_without cX1_without 2 (some .int), Cond.methodLink RX1 43 yX1_restOf, Cond.instanceMethod yX1_restOf, Cond.selects RX1 yX1_restOf yX1_restOf]
def wsX4_tourAt_r3 : List Cond := [Cond.code yX1_restOf cX1_restOf 3 (some .int), Cond.methodLink RX1 39 yX1_allBut, Cond.instanceMethod yX1_allBut, Cond.selects RX1 yX1_allBut yX1_allBut, Cond.code yX1_allBut cX1_allBut 2 (some .int)]
def wsX4_tourAt : List Cond := .code yX4_tourAt cX4_tourAt 3 (some .int) :: ((wsX4_tourAt_r1 ++ (wsX4_tourAt_r2 ++ wsX4_tourAt_r3)) ++ wsX40 ++ wsX10)
def wsX4_told_r1 : List Cond := [Cond.fieldLink RX4 19 "BroadSheet" "lips" "LBroadSheet$Lips;", Cond.fieldLink RX4 10 "BroadSheet" "eye" "LBroadSheet$Eye;", Cond.fieldLink RX4 28 "BroadSheet" "sets" "LBroadSheet$Sets;", Cond.fieldLink RX4 35 "BroadSheet" "grades" "LBroadSheet$Grades;", Cond.methodLink RX4 43 yX2_places, Cond.instanceMethod yX2_places, Cond.selects RX2 yX2_places yX2_places, Cond.initialized RX2, Cond.code yX2_places cX2_places 1 (some .int), Cond.fieldLink RX2 18 "BroadSheet$Lips" "places" "I", Cond.methodLink RX4 62 yX0_count, Cond.instanceMethod yX0_count, Cond.selects RX0 yX0_count yX0_count, Cond.initialized RX0, Cond.code yX0_count cX0_count 1 (some .int), Cond.fieldLink RX0 34 "BroadSheet$Eye" "count" "I", Cond.methodLink RX4 161 yX0_fittingCount, Cond.instanceMethod yX0_fittingCount, Cond.selects RX0 yX0_fittingCount yX0_fittingCount, Cond.code yX0_fittingCount cX0_fittingCount 1 (some .int), Cond.fieldLink RX0 38 "BroadSheet$Eye" "fittingCount" "I", Cond.methodLink RX4 133 yX3_count, Cond.instanceMethod yX3_count, Cond.selects RX3 yX3_count yX3_count]
def wsX4_told_r2 : List Cond := [Cond.initialized RX3, Cond.code yX3_count cX3_count 1 (some .int), Cond.fieldLink RX3 31 "BroadSheet$Sets" "count" "I", Cond.methodLink RX4 146 yX1_count, Cond.instanceMethod yX1_count, Cond.selects RX1 yX1_count yX1_count, Cond.initialized RX1, Cond.code yX1_count cX1_count 1 (some .int), Cond.fieldLink RX1 24 "BroadSheet$Grades" "count" "I", Cond.methodLink RX4 164 yX2_nextLaw, Cond.instanceMethod yX2_nextLaw, Cond.selects RX2 yX2_nextLaw yX2_nextLaw, Cond.code yX2_nextLaw cX2_nextLaw 1 (some .int), Cond.fieldLink RX2 22 "BroadSheet$Lips" "next" "I", Cond.methodLink RX4 167 yX2_bendLaw, Cond.instanceMethod yX2_bendLaw, Cond.selects RX2 yX2_bendLaw yX2_bendLaw, Cond.code yX2_bendLaw cX2_bendLaw 1 (some .int), Cond.fieldLink RX2 25 "BroadSheet$Lips" "bend" "I", Cond.methodLink RX4 170 yX2_mainSpread, Cond.instanceMethod yX2_mainSpread, Cond.selects RX2 yX2_mainSpread yX2_mainSpread, Cond.code yX2_mainSpread cX2_mainSpread 1 (some .int), Cond.fieldLink RX2 28 "BroadSheet$Lips" "main" "I"]
def wsX4_told_r3 : List Cond := [Cond.methodLink RX4 173 yX2_sideSpread, Cond.instanceMethod yX2_sideSpread, Cond.selects RX2 yX2_sideSpread yX2_sideSpread, Cond.code yX2_sideSpread cX2_sideSpread 1 (some .int), Cond.fieldLink RX2 40 "BroadSheet$Lips" "side" "I"]
def wsX4_told : List Cond := .code yX4_told cX4_told 2 (some .int) :: ((wsX4_told_r1 ++ (wsX4_told_r2 ++ wsX4_told_r3)) ++ wsX40 ++ wsX20 ++ wsX00 ++ wsX30 ++ wsX10)
def wsX5_begin : List Cond := .code yX5_begin cX5_begin 2 none :: ([.fieldLink RX5 79 "BroadSheetModel" "readings" "I", .fieldLink RX5 27 "BroadSheetModel" "group" "[I", .fieldLink RX5 30 "BroadSheetModel" "more" "[I"] ++ wsX50)
def wsX5_init_r1 : List Cond := [Cond.methodLink RX5 1 objectInit, Cond.instanceMethod objectInit, Cond.code objectInit ⟨#[0xb1]⟩ 1 none, Cond.fieldLink RX5 7 "BroadSheetModel" "places" "I", Cond.arrayClass .int, Cond.fieldLink RX5 13 "BroadSheetModel" "time" "[I", Cond.fieldLink RX5 17 "BroadSheetModel" "place" "[I", Cond.fieldLink RX5 20 "BroadSheetModel" "value" "[I", Cond.arrayClass .boolean, Cond.fieldLink RX5 23 "BroadSheetModel" "fits" "[Z", Cond.fieldLink RX5 27 "BroadSheetModel" "group" "[I", Cond.fieldLink RX5 30 "BroadSheetModel" "more" "[I", Cond.fieldLink RX5 33 "BroadSheetModel" "base" "[I", Cond.fieldLink RX5 36 "BroadSheetModel" "setting" "[I", Cond.fieldLink RX5 39 "BroadSheetModel" "next" "I", Cond.fieldLink RX5 42 "BroadSheetModel" "bend" "I", Cond.fieldLink RX5 45 "BroadSheetModel" "main" "I", Cond.fieldLink RX5 48 "BroadSheetModel" "width" "[I", Cond.fieldLink RX5 51 "BroadSheetModel" "price" "[I", Cond.fieldLink RX5 54 "BroadSheetModel" "bound" "[I", Cond.fieldLink RX5 57 "BroadSheetModel" "cost" "[I", Cond.fieldLink RX5 60 "BroadSheetModel" "least" "[I", Cond.fieldLink RX5 63 "BroadSheetModel" "worth" "[I", Cond.fieldLink RX5 66 "BroadSheetModel" "begins" "[I"]
def wsX5_init_r2 : List Cond := [Cond.fieldLink RX5 69 "BroadSheetModel" "rest" "[I", Cond.methodLink RX5 72 yX5_begin, Cond.instanceMethod yX5_begin, Cond.selects RX5 yX5_begin yX5_begin, Cond.initialized RX5, Cond.code yX5_begin cX5_begin 2 none, Cond.fieldLink RX5 79 "BroadSheetModel" "readings" "I"]
def wsX5_init : List Cond := .code yX5_init cX5_init 1 none :: ((wsX5_init_r1 ++ wsX5_init_r2) ++ wsX50)
def wsX5_in : List Cond := .code yX5_in cX5_in 3 (some .boolean) :: ([])
def wsX5_size : List Cond := .code yX5_size cX5_size 1 (some .int) :: ([])
def wsX5_isPlace : List Cond := .code yX5_isPlace cX5_isPlace 2 (some .boolean) :: ([.fieldLink RX5 7 "BroadSheetModel" "places" "I", .methodLink RX5 75 yX5_in, .static yX5_in, .initialized RX5, .code yX5_in cX5_in 3 (some .boolean)] ++ wsX50)
def wsX5_sheet : List Cond := .code yX5_sheet cX5_sheet 4 (some .int) :: ([.fieldLink RX5 7 "BroadSheetModel" "places" "I", .fieldLink RX5 82 "BroadSheetModel" "kinds" "I", .fieldLink RX5 33 "BroadSheetModel" "base" "[I", .fieldLink RX5 36 "BroadSheetModel" "setting" "[I", .methodLink RX5 75 yX5_in, .static yX5_in, .initialized RX5, .code yX5_in cX5_in 3 (some .boolean), .methodLink RX5 72 yX5_begin, .instanceMethod yX5_begin, .selects RX5 yX5_begin yX5_begin, .code yX5_begin cX5_begin 2 none, .fieldLink RX5 79 "BroadSheetModel" "readings" "I", .fieldLink RX5 27 "BroadSheetModel" "group" "[I", .fieldLink RX5 30 "BroadSheetModel" "more" "[I"] ++ wsX50)
def wsX5_read : List Cond := .code yX5_read cX5_read 10 (some .int) :: ([.fieldLink RX5 79 "BroadSheetModel" "readings" "I", .fieldLink RX5 27 "BroadSheetModel" "group" "[I", .fieldLink RX5 30 "BroadSheetModel" "more" "[I", .fieldLink RX5 13 "BroadSheetModel" "time" "[I", .fieldLink RX5 17 "BroadSheetModel" "place" "[I", .fieldLink RX5 20 "BroadSheetModel" "value" "[I", .fieldLink RX5 23 "BroadSheetModel" "fits" "[Z", .methodLink RX5 85 yX5_isPlace, .instanceMethod yX5_isPlace, .selects RX5 yX5_isPlace yX5_isPlace, .initialized RX5, .code yX5_isPlace cX5_isPlace 2 (some .boolean), .fieldLink RX5 7 "BroadSheetModel" "places" "I", .methodLink RX5 75 yX5_in, .static yX5_in, .code yX5_in cX5_in 3 (some .boolean)] ++ wsX50)
def wsX5_reading : List Cond := .code yX5_reading cX5_reading 3 (some .int) :: ([.fieldLink RX5 79 "BroadSheetModel" "readings" "I", .constant RX5 89 (-1000001), .fieldLink RX5 13 "BroadSheetModel" "time" "[I", .fieldLink RX5 17 "BroadSheetModel" "place" "[I", .fieldLink RX5 20 "BroadSheetModel" "value" "[I", .fieldLink RX5 23 "BroadSheetModel" "fits" "[Z", .constant RX5 90 (-1000002), .methodLink RX5 75 yX5_in, .static yX5_in, .initialized RX5, .code yX5_in cX5_in 3 (some .boolean)] ++ wsX50)
def wsX5_isAcross : List Cond := .code yX5_isAcross cX5_isAcross 2 (some .boolean) :: ([.fieldLink RX5 27 "BroadSheetModel" "group" "[I"] ++ wsX50)
def wsX5_acrossOf : List Cond := .code yX5_acrossOf cX5_acrossOf 2 (some .int) :: ([.fieldLink RX5 30 "BroadSheetModel" "more" "[I"] ++ wsX50)
def wsX5_across : List Cond := .code yX5_across cX5_across 2 (some .int) :: ([.constant RX5 89 (-1000001), .constant RX5 98 (-1000005), .methodLink RX5 85 yX5_isPlace, .instanceMethod yX5_isPlace, .selects RX5 yX5_isPlace yX5_isPlace, .initialized RX5, .code yX5_isPlace cX5_isPlace 2 (some .boolean), .fieldLink RX5 7 "BroadSheetModel" "places" "I", .methodLink RX5 75 yX5_in, .static yX5_in, .code yX5_in cX5_in 3 (some .boolean), .methodLink RX5 91 yX5_isAcross, .instanceMethod yX5_isAcross, .selects RX5 yX5_isAcross yX5_isAcross, .code yX5_isAcross cX5_isAcross 2 (some .boolean), .fieldLink RX5 27 "BroadSheetModel" "group" "[I", .methodLink RX5 94 yX5_acrossOf, .instanceMethod yX5_acrossOf, .selects RX5 yX5_acrossOf yX5_acrossOf, .code yX5_acrossOf cX5_acrossOf 2 (some .int), .fieldLink RX5 30 "BroadSheetModel" "more" "[I"] ++ wsX50)
def wsX5_along : List Cond := .code yX5_along cX5_along 3 (some .int) :: ([.constant RX5 89 (-1000001), .fieldLink RX5 27 "BroadSheetModel" "group" "[I", .fieldLink RX5 30 "BroadSheetModel" "more" "[I", .constant RX5 98 (-1000005), .methodLink RX5 75 yX5_in, .static yX5_in, .initialized RX5, .code yX5_in cX5_in 3 (some .boolean)] ++ wsX50)
def wsX5_groups : List Cond := .code yX5_groups cX5_groups 5 (some .int) :: ([.fieldLink RX5 7 "BroadSheetModel" "places" "I", .fieldLink RX5 27 "BroadSheetModel" "group" "[I"] ++ wsX50)
def wsX5_take : List Cond := .code yX5_take cX5_take 2 (some .int) :: ([.fieldLink RX5 7 "BroadSheetModel" "places" "I", .fieldLink RX5 33 "BroadSheetModel" "base" "[I", .methodLink RX5 91 yX5_isAcross, .instanceMethod yX5_isAcross, .selects RX5 yX5_isAcross yX5_isAcross, .initialized RX5, .code yX5_isAcross cX5_isAcross 2 (some .boolean), .fieldLink RX5 27 "BroadSheetModel" "group" "[I", .methodLink RX5 94 yX5_acrossOf, .instanceMethod yX5_acrossOf, .selects RX5 yX5_acrossOf yX5_acrossOf, .code yX5_acrossOf cX5_acrossOf 2 (some .int), .fieldLink RX5 30 "BroadSheetModel" "more" "[I", .methodLink RX5 75 yX5_in, .static yX5_in, .code yX5_in cX5_in 3 (some .boolean)] ++ wsX50)
def wsX5_clear : List Cond := .code yX5_clear cX5_clear 2 (some .int) :: ([.fieldLink RX5 79 "BroadSheetModel" "readings" "I", .methodLink RX5 72 yX5_begin, .instanceMethod yX5_begin, .selects RX5 yX5_begin yX5_begin, .initialized RX5, .code yX5_begin cX5_begin 2 none, .fieldLink RX5 27 "BroadSheetModel" "group" "[I", .fieldLink RX5 30 "BroadSheetModel" "more" "[I"] ++ wsX50)
def wsX5_areLawful : List Cond := .code yX5_areLawful cX5_areLawful 5 (some .boolean) :: ([.fieldLink RX5 7 "BroadSheetModel" "places" "I", .fieldLink RX5 36 "BroadSheetModel" "setting" "[I", .methodLink RX5 99 yX5_size, .static yX5_size, .initialized RX5, .code yX5_size cX5_size 1 (some .int)] ++ wsX50)
def wsX5_laws : List Cond := .code yX5_laws cX5_laws 3 (some .int) :: ([.fieldLink RX5 39 "BroadSheetModel" "next" "I", .fieldLink RX5 42 "BroadSheetModel" "bend" "I", .methodLink RX5 75 yX5_in, .static yX5_in, .initialized RX5, .code yX5_in cX5_in 3 (some .boolean), .methodLink RX5 102 yX5_areLawful, .instanceMethod yX5_areLawful, .selects RX5 yX5_areLawful yX5_areLawful, .code yX5_areLawful cX5_areLawful 5 (some .boolean), .fieldLink RX5 7 "BroadSheetModel" "places" "I", .fieldLink RX5 36 "BroadSheetModel" "setting" "[I", .methodLink RX5 99 yX5_size, .static yX5_size, .code yX5_size cX5_size 1 (some .int)] ++ wsX50)
def wsX5_spread : List Cond := .code yX5_spread cX5_spread 3 (some .int) :: ([.fieldLink RX5 45 "BroadSheetModel" "main" "I", .fieldLink RX5 106 "BroadSheetModel" "side" "I", .methodLink RX5 75 yX5_in, .static yX5_in, .initialized RX5, .code yX5_in cX5_in 3 (some .boolean)] ++ wsX50)
def wsX5_base : List Cond := .code yX5_base cX5_base 3 (some .int) :: ([.fieldLink RX5 33 "BroadSheetModel" "base" "[I", .methodLink RX5 85 yX5_isPlace, .instanceMethod yX5_isPlace, .selects RX5 yX5_isPlace yX5_isPlace, .initialized RX5, .code yX5_isPlace cX5_isPlace 2 (some .boolean), .fieldLink RX5 7 "BroadSheetModel" "places" "I", .methodLink RX5 75 yX5_in, .static yX5_in, .code yX5_in cX5_in 3 (some .boolean)] ++ wsX50)
def wsX5_set : List Cond := .code yX5_set cX5_set 4 (some .int) :: ([.fieldLink RX5 36 "BroadSheetModel" "setting" "[I", .fieldLink RX5 39 "BroadSheetModel" "next" "I", .fieldLink RX5 42 "BroadSheetModel" "bend" "I", .methodLink RX5 85 yX5_isPlace, .instanceMethod yX5_isPlace, .selects RX5 yX5_isPlace yX5_isPlace, .initialized RX5, .code yX5_isPlace cX5_isPlace 2 (some .boolean), .fieldLink RX5 7 "BroadSheetModel" "places" "I", .methodLink RX5 75 yX5_in, .static yX5_in, .code yX5_in cX5_in 3 (some .boolean), .methodLink RX5 102 yX5_areLawful, .instanceMethod yX5_areLawful, .selects RX5 yX5_areLawful yX5_areLawful, .code yX5_areLawful cX5_areLawful 5 (some .boolean), .methodLink RX5 99 yX5_size, .static yX5_size, .code yX5_size cX5_size 1 (some .int)] ++ wsX50)
def wsX5_error : List Cond := .code yX5_error cX5_error 4 (some .int) :: ([.fieldLink RX5 36 "BroadSheetModel" "setting" "[I", .fieldLink RX5 7 "BroadSheetModel" "places" "I", .fieldLink RX5 33 "BroadSheetModel" "base" "[I", .fieldLink RX5 45 "BroadSheetModel" "main" "I", .fieldLink RX5 106 "BroadSheetModel" "side" "I"] ++ wsX50)
def wsX5_about : List Cond := .code yX5_about cX5_about 3 (some .int) :: ([.constant RX5 89 (-1000001), .fieldLink RX5 36 "BroadSheetModel" "setting" "[I", .fieldLink RX5 33 "BroadSheetModel" "base" "[I", .constant RX5 90 (-1000002), .methodLink RX5 85 yX5_isPlace, .instanceMethod yX5_isPlace, .selects RX5 yX5_isPlace yX5_isPlace, .initialized RX5, .code yX5_isPlace cX5_isPlace 2 (some .boolean), .fieldLink RX5 7 "BroadSheetModel" "places" "I", .methodLink RX5 75 yX5_in, .static yX5_in, .code yX5_in cX5_in 3 (some .boolean), .methodLink RX5 109 yX5_error, .instanceMethod yX5_error, .selects RX5 yX5_error yX5_error, .code yX5_error cX5_error 4 (some .int), .fieldLink RX5 45 "BroadSheetModel" "main" "I", .fieldLink RX5 106 "BroadSheetModel" "side" "I"] ++ wsX50)
def wsX5_with : List Cond := .code yX5_with cX5_with 3 (some .int) :: ([])
def wsX5_unevenOf : List Cond := .code yX5_unevenOf cX5_unevenOf 4 (some .int) :: ([.fieldLink RX5 7 "BroadSheetModel" "places" "I", .methodLink RX5 109 yX5_error, .instanceMethod yX5_error, .selects RX5 yX5_error yX5_error, .initialized RX5, .code yX5_error cX5_error 4 (some .int), .fieldLink RX5 36 "BroadSheetModel" "setting" "[I", .fieldLink RX5 33 "BroadSheetModel" "base" "[I", .fieldLink RX5 45 "BroadSheetModel" "main" "I", .fieldLink RX5 106 "BroadSheetModel" "side" "I", .methodLink RX5 99 yX5_size, .static yX5_size, .code yX5_size cX5_size 1 (some .int), .methodLink RX5 112 yX5_with, .static yX5_with, .code yX5_with cX5_with 3 (some .int)] ++ wsX50)
def wsX5_uneven : List Cond := .code yX5_uneven cX5_uneven 2 (some .int) :: ([.methodLink RX5 75 yX5_in, .static yX5_in, .initialized RX5, .code yX5_in cX5_in 3 (some .boolean), .methodLink RX5 116 yX5_unevenOf, .instanceMethod yX5_unevenOf, .selects RX5 yX5_unevenOf yX5_unevenOf, .code yX5_unevenOf cX5_unevenOf 4 (some .int), .fieldLink RX5 7 "BroadSheetModel" "places" "I", .methodLink RX5 109 yX5_error, .instanceMethod yX5_error, .selects RX5 yX5_error yX5_error, .code yX5_error cX5_error 4 (some .int), .fieldLink RX5 36 "BroadSheetModel" "setting" "[I", .fieldLink RX5 33 "BroadSheetModel" "base" "[I", .fieldLink RX5 45 "BroadSheetModel" "main" "I", .fieldLink RX5 106 "BroadSheetModel" "side" "I", .methodLink RX5 99 yX5_size, .static yX5_size, .code yX5_size cX5_size 1 (some .int), .methodLink RX5 112 yX5_with, .static yX5_with, .code yX5_with cX5_with 3 (some .int)] ++ wsX50)
def wsX5_goes : List Cond := .code yX5_goes cX5_goes 5 (some .boolean) :: ([.fieldLink RX5 39 "BroadSheetModel" "next" "I", .fieldLink RX5 42 "BroadSheetModel" "bend" "I", .methodLink RX5 99 yX5_size, .static yX5_size, .initialized RX5, .code yX5_size cX5_size 1 (some .int)] ++ wsX50)
def wsX5_layLeast : List Cond := .code yX5_layLeast cX5_layLeast 10 none :: ([.fieldLink RX5 7 "BroadSheetModel" "places" "I", .fieldLink RX5 33 "BroadSheetModel" "base" "[I", .fieldLink RX5 45 "BroadSheetModel" "main" "I", .fieldLink RX5 106 "BroadSheetModel" "side" "I", .fieldLink RX5 60 "BroadSheetModel" "least" "[I", .methodLink RX5 99 yX5_size, .static yX5_size, .initialized RX5, .code yX5_size cX5_size 1 (some .int), .methodLink RX5 119 yX5_goes, .instanceMethod yX5_goes, .selects RX5 yX5_goes yX5_goes, .code yX5_goes cX5_goes 5 (some .boolean), .fieldLink RX5 39 "BroadSheetModel" "next" "I", .fieldLink RX5 42 "BroadSheetModel" "bend" "I", .methodLink RX5 112 yX5_with, .static yX5_with, .code yX5_with cX5_with 3 (some .int)] ++ wsX50)
def wsX5_best_r1 : List Cond := [Cond.fieldLink RX5 60 "BroadSheetModel" "least" "[I", Cond.fieldLink RX5 36 "BroadSheetModel" "setting" "[I", Cond.fieldLink RX5 7 "BroadSheetModel" "places" "I", Cond.fieldLink RX5 33 "BroadSheetModel" "base" "[I", Cond.fieldLink RX5 45 "BroadSheetModel" "main" "I", Cond.fieldLink RX5 106 "BroadSheetModel" "side" "I", Cond.methodLink RX5 75 yX5_in, Cond.static yX5_in, Cond.initialized RX5, Cond.code yX5_in cX5_in 3 (some .boolean), Cond.methodLink RX5 123 yX5_layLeast, Cond.instanceMethod yX5_layLeast, Cond.selects RX5 yX5_layLeast yX5_layLeast, Cond.code yX5_layLeast cX5_layLeast 10 none, Cond.methodLink RX5 99 yX5_size, Cond.static yX5_size, Cond.code yX5_size cX5_size 1 (some .int), Cond.methodLink RX5 119 yX5_goes, Cond.instanceMethod yX5_goes, Cond.selects RX5 yX5_goes yX5_goes, Cond.code yX5_goes cX5_goes 5 (some .boolean), Cond.fieldLink RX5 39 "BroadSheetModel" "next" "I", Cond.fieldLink RX5 42 "BroadSheetModel" "bend" "I", Cond.methodLink RX5 112 yX5_with]
def wsX5_best_r2 : List Cond := [Cond.static yX5_with, Cond.code yX5_with cX5_with 3 (some .int)]
def wsX5_best : List Cond := .code yX5_best cX5_best 11 (some .int) :: ((wsX5_best_r1 ++ wsX5_best_r2) ++ wsX50)
def wsX5_kind : List Cond := .code yX5_kind cX5_kind 4 (some .int) :: ([.fieldLink RX5 82 "BroadSheetModel" "kinds" "I", .fieldLink RX5 48 "BroadSheetModel" "width" "[I", .fieldLink RX5 51 "BroadSheetModel" "price" "[I", .fieldLink RX5 54 "BroadSheetModel" "bound" "[I", .methodLink RX5 75 yX5_in, .static yX5_in, .initialized RX5, .code yX5_in cX5_in 3 (some .boolean)] ++ wsX50)
def wsX5_lies : List Cond := .code yX5_lies cX5_lies 5 (some .boolean) :: ([.fieldLink RX5 48 "BroadSheetModel" "width" "[I", .fieldLink RX5 7 "BroadSheetModel" "places" "I", .fieldLink RX5 54 "BroadSheetModel" "bound" "[I", .methodLink RX5 109 yX5_error, .instanceMethod yX5_error, .selects RX5 yX5_error yX5_error, .initialized RX5, .code yX5_error cX5_error 4 (some .int), .fieldLink RX5 36 "BroadSheetModel" "setting" "[I", .fieldLink RX5 33 "BroadSheetModel" "base" "[I", .fieldLink RX5 45 "BroadSheetModel" "main" "I", .fieldLink RX5 106 "BroadSheetModel" "side" "I", .methodLink RX5 99 yX5_size, .static yX5_size, .code yX5_size cX5_size 1 (some .int)] ++ wsX50)
def wsX5_canLie_r1 : List Cond := [Cond.fieldLink RX5 82 "BroadSheetModel" "kinds" "I", Cond.methodLink RX5 75 yX5_in, Cond.static yX5_in, Cond.initialized RX5, Cond.code yX5_in cX5_in 3 (some .boolean), Cond.methodLink RX5 85 yX5_isPlace, Cond.instanceMethod yX5_isPlace, Cond.selects RX5 yX5_isPlace yX5_isPlace, Cond.code yX5_isPlace cX5_isPlace 2 (some .boolean), Cond.fieldLink RX5 7 "BroadSheetModel" "places" "I", Cond.methodLink RX5 127 yX5_lies, Cond.instanceMethod yX5_lies, Cond.selects RX5 yX5_lies yX5_lies, Cond.code yX5_lies cX5_lies 5 (some .boolean), Cond.fieldLink RX5 48 "BroadSheetModel" "width" "[I", Cond.fieldLink RX5 54 "BroadSheetModel" "bound" "[I", Cond.methodLink RX5 109 yX5_error, Cond.instanceMethod yX5_error, Cond.selects RX5 yX5_error yX5_error, Cond.code yX5_error cX5_error 4 (some .int), Cond.fieldLink RX5 36 "BroadSheetModel" "setting" "[I", Cond.fieldLink RX5 33 "BroadSheetModel" "base" "[I", Cond.fieldLink RX5 45 "BroadSheetModel" "main" "I", Cond.fieldLink RX5 106 "BroadSheetModel" "side" "I"]
def wsX5_canLie_r2 : List Cond := [Cond.methodLink RX5 99 yX5_size, Cond.static yX5_size, Cond.code yX5_size cX5_size 1 (some .int)]
def wsX5_canLie : List Cond := .code yX5_canLie cX5_canLie 3 (some .int) :: ((wsX5_canLie_r1 ++ wsX5_canLie_r2) ++ wsX50)
def wsX5_layCut : List Cond := .code yX5_layCut cX5_layCut 4 none :: ([.fieldLink RX5 63 "BroadSheetModel" "worth" "[I", .fieldLink RX5 7 "BroadSheetModel" "places" "I", .fieldLink RX5 66 "BroadSheetModel" "begins" "[I", .fieldLink RX5 82 "BroadSheetModel" "kinds" "I", .fieldLink RX5 51 "BroadSheetModel" "price" "[I", .fieldLink RX5 48 "BroadSheetModel" "width" "[I", .methodLink RX5 127 yX5_lies, .instanceMethod yX5_lies, .selects RX5 yX5_lies yX5_lies, .initialized RX5, .code yX5_lies cX5_lies 5 (some .boolean), .fieldLink RX5 54 "BroadSheetModel" "bound" "[I", .methodLink RX5 109 yX5_error, .instanceMethod yX5_error, .selects RX5 yX5_error yX5_error, .code yX5_error cX5_error 4 (some .int), .fieldLink RX5 36 "BroadSheetModel" "setting" "[I", .fieldLink RX5 33 "BroadSheetModel" "base" "[I", .fieldLink RX5 45 "BroadSheetModel" "main" "I", .fieldLink RX5 106 "BroadSheetModel" "side" "I", .methodLink RX5 99 yX5_size, .static yX5_size, .code yX5_size cX5_size 1 (some .int)] ++ wsX50)
def wsX5_cut_r1 : List Cond := [Cond.fieldLink RX5 63 "BroadSheetModel" "worth" "[I", Cond.methodLink RX5 130 yX5_layCut, Cond.instanceMethod yX5_layCut, Cond.selects RX5 yX5_layCut yX5_layCut, Cond.initialized RX5, Cond.code yX5_layCut cX5_layCut 4 none, Cond.fieldLink RX5 7 "BroadSheetModel" "places" "I", Cond.fieldLink RX5 66 "BroadSheetModel" "begins" "[I", Cond.fieldLink RX5 82 "BroadSheetModel" "kinds" "I", Cond.fieldLink RX5 51 "BroadSheetModel" "price" "[I", Cond.fieldLink RX5 48 "BroadSheetModel" "width" "[I", Cond.methodLink RX5 127 yX5_lies, Cond.instanceMethod yX5_lies, Cond.selects RX5 yX5_lies yX5_lies, Cond.code yX5_lies cX5_lies 5 (some .boolean), Cond.fieldLink RX5 54 "BroadSheetModel" "bound" "[I", Cond.methodLink RX5 109 yX5_error, Cond.instanceMethod yX5_error, Cond.selects RX5 yX5_error yX5_error, Cond.code yX5_error cX5_error 4 (some .int), Cond.fieldLink RX5 36 "BroadSheetModel" "setting" "[I", Cond.fieldLink RX5 33 "BroadSheetModel" "base" "[I", Cond.fieldLink RX5 45 "BroadSheetModel" "main" "I", Cond.fieldLink RX5 106 "BroadSheetModel" "side" "I"]
def wsX5_cut_r2 : List Cond := [Cond.methodLink RX5 99 yX5_size, Cond.static yX5_size, Cond.code yX5_size cX5_size 1 (some .int)]
def wsX5_cut : List Cond := .code yX5_cut cX5_cut 1 (some .int) :: ((wsX5_cut_r1 ++ wsX5_cut_r2) ++ wsX50)
def wsX5_cutAt_r1 : List Cond := [Cond.fieldLink RX5 66 "BroadSheetModel" "begins" "[I", Cond.fieldLink RX5 48 "BroadSheetModel" "width" "[I", Cond.methodLink RX5 85 yX5_isPlace, Cond.instanceMethod yX5_isPlace, Cond.selects RX5 yX5_isPlace yX5_isPlace, Cond.initialized RX5, Cond.code yX5_isPlace cX5_isPlace 2 (some .boolean), Cond.fieldLink RX5 7 "BroadSheetModel" "places" "I", Cond.methodLink RX5 75 yX5_in, Cond.static yX5_in, Cond.code yX5_in cX5_in 3 (some .boolean), Cond.methodLink RX5 130 yX5_layCut, Cond.instanceMethod yX5_layCut, Cond.selects RX5 yX5_layCut yX5_layCut, Cond.code yX5_layCut cX5_layCut 4 none, Cond.fieldLink RX5 63 "BroadSheetModel" "worth" "[I", Cond.fieldLink RX5 82 "BroadSheetModel" "kinds" "I", Cond.fieldLink RX5 51 "BroadSheetModel" "price" "[I", Cond.methodLink RX5 127 yX5_lies, Cond.instanceMethod yX5_lies, Cond.selects RX5 yX5_lies yX5_lies, Cond.code yX5_lies cX5_lies 5 (some .boolean), Cond.fieldLink RX5 54 "BroadSheetModel" "bound" "[I", Cond.methodLink RX5 109 yX5_error]
def wsX5_cutAt_r2 : List Cond := [Cond.instanceMethod yX5_error, Cond.selects RX5 yX5_error yX5_error, Cond.code yX5_error cX5_error 4 (some .int), Cond.fieldLink RX5 36 "BroadSheetModel" "setting" "[I", Cond.fieldLink RX5 33 "BroadSheetModel" "base" "[I", Cond.fieldLink RX5 45 "BroadSheetModel" "main" "I", Cond.fieldLink RX5 106 "BroadSheetModel" "side" "I", Cond.methodLink RX5 99 yX5_size, Cond.static yX5_size, Cond.code yX5_size cX5_size 1 (some .int)]
def wsX5_cutAt : List Cond := .code yX5_cutAt cX5_cutAt 3 (some .int) :: ((wsX5_cutAt_r1 ++ wsX5_cutAt_r2) ++ wsX50)
def wsX5_grade : List Cond := .code yX5_grade cX5_grade 2 (some .int) :: ([.fieldLink RX5 133 "BroadSheetModel" "grades" "I", .fieldLink RX5 57 "BroadSheetModel" "cost" "[I"] ++ wsX50)
def wsX5_isGrade : List Cond := .code yX5_isGrade cX5_isGrade 2 (some .boolean) :: ([.fieldLink RX5 133 "BroadSheetModel" "grades" "I", .methodLink RX5 75 yX5_in, .static yX5_in, .initialized RX5, .code yX5_in cX5_in 3 (some .boolean)] ++ wsX50)
def wsX5_cost : List Cond := .code yX5_cost cX5_cost 5 (some .int) :: ([.fieldLink RX5 57 "BroadSheetModel" "cost" "[I", .methodLink RX5 136 yX5_isGrade, .instanceMethod yX5_isGrade, .selects RX5 yX5_isGrade yX5_isGrade, .initialized RX5, .code yX5_isGrade cX5_isGrade 2 (some .boolean), .fieldLink RX5 133 "BroadSheetModel" "grades" "I", .methodLink RX5 75 yX5_in, .static yX5_in, .code yX5_in cX5_in 3 (some .boolean)] ++ wsX50)
def wsX5_layRest : List Cond := .code yX5_layRest cX5_layRest 6 none :: ([.fieldLink RX5 133 "BroadSheetModel" "grades" "I", .fieldLink RX5 57 "BroadSheetModel" "cost" "[I", .fieldLink RX5 69 "BroadSheetModel" "rest" "[I"] ++ wsX50)
def wsX5_tour : List Cond := .code yX5_tour cX5_tour 2 (some .int) :: ([.fieldLink RX5 69 "BroadSheetModel" "rest" "[I", .methodLink RX5 136 yX5_isGrade, .instanceMethod yX5_isGrade, .selects RX5 yX5_isGrade yX5_isGrade, .initialized RX5, .code yX5_isGrade cX5_isGrade 2 (some .boolean), .fieldLink RX5 133 "BroadSheetModel" "grades" "I", .methodLink RX5 75 yX5_in, .static yX5_in, .code yX5_in cX5_in 3 (some .boolean), .methodLink RX5 139 yX5_layRest, .instanceMethod yX5_layRest, .selects RX5 yX5_layRest yX5_layRest, .code yX5_layRest cX5_layRest 6 none, .fieldLink RX5 57 "BroadSheetModel" "cost" "[I"] ++ wsX50)
def wsX5_tourAt : List Cond := .code yX5_tourAt cX5_tourAt 7 (some .int) :: ([.fieldLink RX5 133 "BroadSheetModel" "grades" "I", .fieldLink RX5 57 "BroadSheetModel" "cost" "[I", .fieldLink RX5 69 "BroadSheetModel" "rest" "[I", .methodLink RX5 136 yX5_isGrade, .instanceMethod yX5_isGrade, .selects RX5 yX5_isGrade yX5_isGrade, .initialized RX5, .code yX5_isGrade cX5_isGrade 2 (some .boolean), .methodLink RX5 75 yX5_in, .static yX5_in, .code yX5_in cX5_in 3 (some .boolean), .methodLink RX5 139 yX5_layRest, .instanceMethod yX5_layRest, .selects RX5 yX5_layRest yX5_layRest, .code yX5_layRest cX5_layRest 6 none] ++ wsX50)
def wsX5_fitting : List Cond := .code yX5_fitting cX5_fitting 3 (some .int) :: ([.fieldLink RX5 79 "BroadSheetModel" "readings" "I", .fieldLink RX5 23 "BroadSheetModel" "fits" "[Z"] ++ wsX50)
def wsX5_told : List Cond := .code yX5_told cX5_told 2 (some .int) :: ([.fieldLink RX5 7 "BroadSheetModel" "places" "I", .fieldLink RX5 79 "BroadSheetModel" "readings" "I", .fieldLink RX5 82 "BroadSheetModel" "kinds" "I", .fieldLink RX5 133 "BroadSheetModel" "grades" "I", .fieldLink RX5 39 "BroadSheetModel" "next" "I", .fieldLink RX5 42 "BroadSheetModel" "bend" "I", .fieldLink RX5 45 "BroadSheetModel" "main" "I", .fieldLink RX5 106 "BroadSheetModel" "side" "I", .methodLink RX5 142 yX5_fitting, .instanceMethod yX5_fitting, .selects RX5 yX5_fitting yX5_fitting, .initialized RX5, .code yX5_fitting cX5_fitting 3 (some .int), .fieldLink RX5 23 "BroadSheetModel" "fits" "[Z"] ++ wsX50)
def wsJ9_abs_0f7a4 : List Cond := .code yJ9_abs_0f7a4 cJ9_abs_0f7a4 1 (some .int) :: ([])
def wsJ9_max_7cf53 : List Cond := .code yJ9_max_7cf53 cJ9_max_7cf53 2 (some .int) :: ([])
def wsJ9_min_7cf53 : List Cond := .code yJ9_min_7cf53 cJ9_min_7cf53 2 (some .int) :: ([])
def wsL_law_r1 : List Cond := [Cond.classLink RL 7 RX4, Cond.instantiable RX4 4, Cond.initialized RX4, Cond.classLink RL 10 RX5, Cond.instantiable RX5 24, Cond.initialized RX5, Cond.methodLink RL 9 yX4_init, Cond.instanceMethod yX4_init, Cond.code yX4_init cX4_init 1 none, Cond.methodLink RX4 1 objectInit, Cond.instanceMethod objectInit, Cond.code objectInit ⟨#[0xb1]⟩ 1 none, Cond.classLink RX4 7 RX0, Cond.instantiable RX0 8, Cond.initialized RX0, Cond.fieldLink RX4 10 "BroadSheet" "eye" "LBroadSheet$Eye;", Cond.classLink RX4 16 RX2, Cond.instantiable RX2 8, Cond.initialized RX2, Cond.fieldLink RX4 19 "BroadSheet" "lips" "LBroadSheet$Lips;", Cond.classLink RX4 23 RX3, Cond.instantiable RX3 7, Cond.initialized RX3, Cond.fieldLink RX4 28 "BroadSheet" "sets" "LBroadSheet$Sets;"]
def wsL_law_r2 : List Cond := [Cond.classLink RX4 32 RX1, Cond.instantiable RX1 4, Cond.initialized RX1, Cond.fieldLink RX4 35 "BroadSheet" "grades" "LBroadSheet$Grades;", Cond.methodLink RX4 9 yX0_init, Cond.instanceMethod yX0_init, Cond.code yX0_init cX0_init 1 none, Cond.methodLink RX0 3 objectInit, Cond.arrayClass .int, Cond.fieldLink RX0 9 "BroadSheet$Eye" "times" "[I", Cond.fieldLink RX0 15 "BroadSheet$Eye" "places" "[I", Cond.fieldLink RX0 18 "BroadSheet$Eye" "values" "[I", Cond.arrayClass .boolean, Cond.fieldLink RX0 21 "BroadSheet$Eye" "fitting" "[Z", Cond.fieldLink RX0 25 "BroadSheet$Eye" "group" "[I", Cond.fieldLink RX0 28 "BroadSheet$Eye" "height" "[I", Cond.methodLink RX0 31 yX0_forget, Cond.instanceMethod yX0_forget, Cond.selects RX0 yX0_forget yX0_forget, Cond.code yX0_forget cX0_forget 2 none, Cond.fieldLink RX0 34 "BroadSheet$Eye" "count" "I", Cond.fieldLink RX0 38 "BroadSheet$Eye" "fittingCount" "I", Cond.methodLink RX4 18 yX2_init, Cond.instanceMethod yX2_init]
def wsL_law_r3 : List Cond := [Cond.code yX2_init cX2_init 1 none, Cond.methodLink RX2 3 objectInit, Cond.fieldLink RX2 9 "BroadSheet$Lips" "bases" "[I", Cond.fieldLink RX2 15 "BroadSheet$Lips" "settings" "[I", Cond.fieldLink RX2 18 "BroadSheet$Lips" "places" "I", Cond.fieldLink RX2 22 "BroadSheet$Lips" "next" "I", Cond.fieldLink RX2 25 "BroadSheet$Lips" "bend" "I", Cond.fieldLink RX2 28 "BroadSheet$Lips" "main" "I", Cond.fieldLink RX2 31 "BroadSheet$Lips" "rest" "[I", Cond.methodLink RX4 25 yX3_init, Cond.instanceMethod yX3_init, Cond.code yX3_init cX3_init 2 none, Cond.methodLink RX3 3 objectInit, Cond.fieldLink RX3 9 "BroadSheet$Sets" "widths" "[I", Cond.fieldLink RX3 15 "BroadSheet$Sets" "prices" "[I", Cond.fieldLink RX3 18 "BroadSheet$Sets" "bounds" "[I", Cond.fieldLink RX3 21 "BroadSheet$Sets" "worth" "[I", Cond.fieldLink RX3 24 "BroadSheet$Sets" "begins" "[I", Cond.fieldLink RX3 27 "BroadSheet$Sets" "lips" "LBroadSheet$Lips;", Cond.methodLink RX4 34 yX1_init, Cond.instanceMethod yX1_init, Cond.code yX1_init cX1_init 1 none, Cond.methodLink RX1 3 objectInit, Cond.fieldLink RX1 9 "BroadSheet$Grades" "costs" "[I"]
def wsL_law_r4 : List Cond := [Cond.fieldLink RX1 15 "BroadSheet$Grades" "rest" "[I", Cond.methodLink RX1 18 yJ7_fill_53178, Cond.static yJ7_fill_53178, Cond.initialized RJ7, Cond.code yJ7_fill_53178 cJ7_fill_53178 4 none, Cond.methodLink RL 12 yX5_init, Cond.instanceMethod yX5_init, Cond.code yX5_init cX5_init 1 none, Cond.methodLink RX5 1 objectInit, Cond.fieldLink RX5 7 "BroadSheetModel" "places" "I", Cond.fieldLink RX5 13 "BroadSheetModel" "time" "[I", Cond.fieldLink RX5 17 "BroadSheetModel" "place" "[I", Cond.fieldLink RX5 20 "BroadSheetModel" "value" "[I", Cond.fieldLink RX5 23 "BroadSheetModel" "fits" "[Z", Cond.fieldLink RX5 27 "BroadSheetModel" "group" "[I", Cond.fieldLink RX5 30 "BroadSheetModel" "more" "[I", Cond.fieldLink RX5 33 "BroadSheetModel" "base" "[I", Cond.fieldLink RX5 36 "BroadSheetModel" "setting" "[I", Cond.fieldLink RX5 39 "BroadSheetModel" "next" "I", Cond.fieldLink RX5 42 "BroadSheetModel" "bend" "I", Cond.fieldLink RX5 45 "BroadSheetModel" "main" "I", Cond.fieldLink RX5 48 "BroadSheetModel" "width" "[I", Cond.fieldLink RX5 51 "BroadSheetModel" "price" "[I", Cond.fieldLink RX5 54 "BroadSheetModel" "bound" "[I"]
def wsL_law_r5 : List Cond := [Cond.fieldLink RX5 57 "BroadSheetModel" "cost" "[I", Cond.fieldLink RX5 60 "BroadSheetModel" "least" "[I", Cond.fieldLink RX5 63 "BroadSheetModel" "worth" "[I", Cond.fieldLink RX5 66 "BroadSheetModel" "begins" "[I", Cond.fieldLink RX5 69 "BroadSheetModel" "rest" "[I", Cond.methodLink RX5 72 yX5_begin, Cond.instanceMethod yX5_begin, Cond.selects RX5 yX5_begin yX5_begin, Cond.code yX5_begin cX5_begin 2 none, Cond.fieldLink RX5 79 "BroadSheetModel" "readings" "I", Cond.methodLink RL 13 yX4_sheet, Cond.instanceMethod yX4_sheet, Cond.selects RX4 yX4_sheet yX4_sheet, Cond.code yX4_sheet cX4_sheet 3 (some .int), Cond.methodLink RX4 39 yX4_within, Cond.static yX4_within, Cond.code yX4_within cX4_within 3 (some .boolean), Cond.methodLink RX4 43 yX2_places, Cond.instanceMethod yX2_places, Cond.selects RX2 yX2_places yX2_places, Cond.code yX2_places cX2_places 1 (some .int), Cond.methodLink RX4 47 yX0_forget, Cond.methodLink RX4 50 yX3_forget, Cond.instanceMethod yX3_forget]
def wsL_law_r6 : List Cond := [Cond.selects RX3 yX3_forget yX3_forget, Cond.code yX3_forget cX3_forget 1 none, Cond.fieldLink RX3 31 "BroadSheet$Sets" "count" "I", Cond.methodLink RX4 51 yX2_renew, Cond.instanceMethod yX2_renew, Cond.selects RX2 yX2_renew yX2_renew, Cond.code yX2_renew cX2_renew 2 none, Cond.methodLink RX2 34 yJ7_fill_53178, Cond.methodLink RL 17 yX5_sheet, Cond.instanceMethod yX5_sheet, Cond.selects RX5 yX5_sheet yX5_sheet, Cond.code yX5_sheet cX5_sheet 4 (some .int), Cond.fieldLink RX5 82 "BroadSheetModel" "kinds" "I", Cond.methodLink RX5 75 yX5_in, Cond.static yX5_in, Cond.code yX5_in cX5_in 3 (some .boolean), Cond.methodLink RL 18 yX4_read, Cond.instanceMethod yX4_read, Cond.selects RX4 yX4_read yX4_read, Cond.code yX4_read cX4_read 4 (some .int), Cond.methodLink RX4 55 yX4_isPlace, Cond.instanceMethod yX4_isPlace, Cond.selects RX4 yX4_isPlace yX4_isPlace, Cond.code yX4_isPlace cX4_isPlace 2 (some .boolean)]
def wsL_law_r7 : List Cond := [Cond.methodLink RX4 59 yX4_isTime, Cond.static yX4_isTime, Cond.code yX4_isTime cX4_isTime 1 (some .boolean), Cond.methodLink RX4 62 yX0_count, Cond.instanceMethod yX0_count, Cond.selects RX0 yX0_count yX0_count, Cond.code yX0_count cX0_count 1 (some .int), Cond.methodLink RX4 65 yX0_add, Cond.instanceMethod yX0_add, Cond.selects RX0 yX0_add yX0_add, Cond.code yX0_add cX0_add 5 (some .boolean), Cond.methodLink RX0 41 yX0_knotOfTime, Cond.static yX0_knotOfTime, Cond.code yX0_knotOfTime cX0_knotOfTime 1 (some .int), Cond.methodLink RX0 45 yX0_fit, Cond.instanceMethod yX0_fit, Cond.selects RX0 yX0_fit yX0_fit, Cond.code yX0_fit cX0_fit 8 (some .boolean), Cond.methodLink RL 22 yX5_read, Cond.instanceMethod yX5_read, Cond.selects RX5 yX5_read yX5_read, Cond.code yX5_read cX5_read 10 (some .int), Cond.methodLink RX5 85 yX5_isPlace, Cond.instanceMethod yX5_isPlace]
def wsL_law_r8 : List Cond := [Cond.selects RX5 yX5_isPlace yX5_isPlace, Cond.code yX5_isPlace cX5_isPlace 2 (some .boolean), Cond.methodLink RL 23 yX4_reading, Cond.instanceMethod yX4_reading, Cond.selects RX4 yX4_reading yX4_reading, Cond.code yX4_reading cX4_reading 3 (some .int), Cond.constant RX4 68 (-1000001), Cond.constant RX4 82 (-1000002), Cond.methodLink RX4 69 yX0_timeOf, Cond.instanceMethod yX0_timeOf, Cond.selects RX0 yX0_timeOf yX0_timeOf, Cond.code yX0_timeOf cX0_timeOf 2 (some .int), Cond.methodLink RX4 73 yX0_placeOf, Cond.instanceMethod yX0_placeOf, Cond.selects RX0 yX0_placeOf yX0_placeOf, Cond.code yX0_placeOf cX0_placeOf 2 (some .int), Cond.methodLink RX4 76 yX0_valueOf, Cond.instanceMethod yX0_valueOf, Cond.selects RX0 yX0_valueOf yX0_valueOf, Cond.code yX0_valueOf cX0_valueOf 2 (some .int), Cond.methodLink RX4 79 yX0_isFitting, Cond.instanceMethod yX0_isFitting, Cond.selects RX0 yX0_isFitting yX0_isFitting, Cond.code yX0_isFitting cX0_isFitting 2 (some .boolean)]
def wsL_law_r9 : List Cond := [Cond.methodLink RL 27 yX5_reading, Cond.instanceMethod yX5_reading, Cond.selects RX5 yX5_reading yX5_reading, Cond.code yX5_reading cX5_reading 3 (some .int), Cond.constant RX5 89 (-1000001), Cond.constant RX5 90 (-1000002), Cond.methodLink RL 28 yX4_across, Cond.instanceMethod yX4_across, Cond.selects RX4 yX4_across yX4_across, Cond.code yX4_across cX4_across 2 (some .int), Cond.constant RX4 89 (-1000005), Cond.methodLink RX4 83 yX0_hasAcross, Cond.instanceMethod yX0_hasAcross, Cond.selects RX0 yX0_hasAcross yX0_hasAcross, Cond.code yX0_hasAcross cX0_hasAcross 2 (some .boolean), Cond.methodLink RX4 86 yX0_acrossOf, Cond.instanceMethod yX0_acrossOf, Cond.selects RX0 yX0_acrossOf yX0_acrossOf, Cond.code yX0_acrossOf cX0_acrossOf 2 (some .int), Cond.methodLink RL 31 yX5_across, Cond.instanceMethod yX5_across, Cond.selects RX5 yX5_across yX5_across, Cond.code yX5_across cX5_across 2 (some .int), Cond.constant RX5 98 (-1000005)]
def wsL_law_r10 : List Cond := [Cond.methodLink RX5 91 yX5_isAcross, Cond.instanceMethod yX5_isAcross, Cond.selects RX5 yX5_isAcross yX5_isAcross, Cond.code yX5_isAcross cX5_isAcross 2 (some .boolean), Cond.methodLink RX5 94 yX5_acrossOf, Cond.instanceMethod yX5_acrossOf, Cond.selects RX5 yX5_acrossOf yX5_acrossOf, Cond.code yX5_acrossOf cX5_acrossOf 2 (some .int), Cond.methodLink RL 32 yX4_along, Cond.instanceMethod yX4_along, Cond.selects RX4 yX4_along yX4_along, Cond.code yX4_along cX4_along 3 (some .int), Cond.methodLink RX4 90 yX0_timesHangTogether, Cond.instanceMethod yX0_timesHangTogether, Cond.selects RX0 yX0_timesHangTogether yX0_timesHangTogether, Cond.code yX0_timesHangTogether cX0_timesHangTogether 3 (some .boolean), Cond.methodLink RX4 94 yX0_moreAlong, Cond.instanceMethod yX0_moreAlong, Cond.selects RX0 yX0_moreAlong yX0_moreAlong, Cond.code yX0_moreAlong cX0_moreAlong 3 (some .int), Cond.methodLink RL 35 yX5_along, Cond.instanceMethod yX5_along, Cond.selects RX5 yX5_along yX5_along, Cond.code yX5_along cX5_along 3 (some .int)]
def wsL_law_r11 : List Cond := [Cond.methodLink RL 36 yX4_groups, Cond.instanceMethod yX4_groups, Cond.selects RX4 yX4_groups yX4_groups, Cond.code yX4_groups cX4_groups 1 (some .int), Cond.methodLink RX4 98 yX0_countGroups, Cond.instanceMethod yX0_countGroups, Cond.selects RX0 yX0_countGroups yX0_countGroups, Cond.code yX0_countGroups cX0_countGroups 4 (some .int), Cond.methodLink RX0 49 yX0_isFirstOfGroup, Cond.instanceMethod yX0_isFirstOfGroup, Cond.selects RX0 yX0_isFirstOfGroup yX0_isFirstOfGroup, Cond.code yX0_isFirstOfGroup cX0_isFirstOfGroup 3 (some .boolean), Cond.methodLink RL 40 yX5_groups, Cond.instanceMethod yX5_groups, Cond.selects RX5 yX5_groups yX5_groups, Cond.code yX5_groups cX5_groups 5 (some .int), Cond.methodLink RL 41 yX4_take, Cond.instanceMethod yX4_take, Cond.selects RX4 yX4_take yX4_take, Cond.code yX4_take cX4_take 3 (some .int), Cond.methodLink RX4 101 yX2_putBase, Cond.instanceMethod yX2_putBase, Cond.selects RX2 yX2_putBase yX2_putBase, Cond.code yX2_putBase cX2_putBase 3 none]
def wsL_law_r12 : List Cond := [Cond.methodLink RL 44 yX5_take, Cond.instanceMethod yX5_take, Cond.selects RX5 yX5_take yX5_take, Cond.code yX5_take cX5_take 2 (some .int), Cond.methodLink RL 45 yX4_clear, Cond.instanceMethod yX4_clear, Cond.selects RX4 yX4_clear yX4_clear, Cond.code yX4_clear cX4_clear 2 (some .int), Cond.methodLink RL 48 yX5_clear, Cond.instanceMethod yX5_clear, Cond.selects RX5 yX5_clear yX5_clear, Cond.code yX5_clear cX5_clear 2 (some .int), Cond.methodLink RL 49 yX4_laws, Cond.instanceMethod yX4_laws, Cond.selects RX4 yX4_laws yX4_laws, Cond.code yX4_laws cX4_laws 3 (some .int), Cond.methodLink RX4 105 yX2_isLawful, Cond.instanceMethod yX2_isLawful, Cond.selects RX2 yX2_isLawful yX2_isLawful, Cond.code yX2_isLawful cX2_isLawful 4 (some .boolean), Cond.methodLink RX2 47 Lib.Math.abs.name, Cond.static Lib.Math.abs.name, Cond.initialized "java/lang/Math", Cond.code Lib.Math.abs.name Lib.Math.abs.code 1 (some .int)]
def wsL_law_r13 : List Cond := [Cond.methodLink RX4 108 yX2_putLaws, Cond.instanceMethod yX2_putLaws, Cond.selects RX2 yX2_putLaws yX2_putLaws, Cond.code yX2_putLaws cX2_putLaws 3 none, Cond.methodLink RL 52 yX5_laws, Cond.instanceMethod yX5_laws, Cond.selects RX5 yX5_laws yX5_laws, Cond.code yX5_laws cX5_laws 3 (some .int), Cond.methodLink RX5 102 yX5_areLawful, Cond.instanceMethod yX5_areLawful, Cond.selects RX5 yX5_areLawful yX5_areLawful, Cond.code yX5_areLawful cX5_areLawful 5 (some .boolean), Cond.methodLink RX5 99 yX5_size, Cond.static yX5_size, Cond.code yX5_size cX5_size 1 (some .int), Cond.methodLink RL 53 yX4_spread, Cond.instanceMethod yX4_spread, Cond.selects RX4 yX4_spread yX4_spread, Cond.code yX4_spread cX4_spread 3 (some .int), Cond.methodLink RX4 111 yX2_putSpread, Cond.instanceMethod yX2_putSpread, Cond.selects RX2 yX2_putSpread yX2_putSpread, Cond.code yX2_putSpread cX2_putSpread 3 none, Cond.fieldLink RX2 40 "BroadSheet$Lips" "side" "I"]
def wsL_law_r14 : List Cond := [Cond.methodLink RL 56 yX5_spread, Cond.instanceMethod yX5_spread, Cond.selects RX5 yX5_spread yX5_spread, Cond.code yX5_spread cX5_spread 3 (some .int), Cond.fieldLink RX5 106 "BroadSheetModel" "side" "I", Cond.methodLink RL 57 yX4_base, Cond.instanceMethod yX4_base, Cond.selects RX4 yX4_base yX4_base, Cond.code yX4_base cX4_base 3 (some .int), Cond.methodLink RL 60 yX5_base, Cond.instanceMethod yX5_base, Cond.selects RX5 yX5_base yX5_base, Cond.code yX5_base cX5_base 3 (some .int), Cond.methodLink RL 61 yX4_set, Cond.instanceMethod yX4_set, Cond.selects RX4 yX4_set yX4_set, Cond.code yX4_set cX4_set 3 (some .int), Cond.methodLink RX4 114 yX2_trySetting, Cond.instanceMethod yX2_trySetting, Cond.selects RX2 yX2_trySetting yX2_trySetting, Cond.code yX2_trySetting cX2_trySetting 4 (some .boolean), Cond.methodLink RX2 43 yX2_isLawful, Cond.methodLink RL 64 yX5_set, Cond.instanceMethod yX5_set]
def wsL_law_r15 : List Cond := [Cond.selects RX5 yX5_set yX5_set, Cond.code yX5_set cX5_set 4 (some .int), Cond.methodLink RL 65 yX4_about, Cond.instanceMethod yX4_about, Cond.selects RX4 yX4_about yX4_about, Cond.code yX4_about cX4_about 3 (some .int), Cond.methodLink RX4 117 yX2_settingOf, Cond.instanceMethod yX2_settingOf, Cond.selects RX2 yX2_settingOf yX2_settingOf, Cond.code yX2_settingOf cX2_settingOf 2 (some .int), Cond.methodLink RX4 120 yX2_baseOf, Cond.instanceMethod yX2_baseOf, Cond.selects RX2 yX2_baseOf yX2_baseOf, Cond.code yX2_baseOf cX2_baseOf 2 (some .int), Cond.methodLink RX4 123 yX2_errorOf, Cond.instanceMethod yX2_errorOf, Cond.selects RX2 yX2_errorOf yX2_errorOf, Cond.code yX2_errorOf cX2_errorOf 3 (some .int), Cond.methodLink RL 68 yX5_about, Cond.instanceMethod yX5_about, Cond.selects RX5 yX5_about yX5_about, Cond.code yX5_about cX5_about 3 (some .int), Cond.methodLink RX5 109 yX5_error, Cond.instanceMethod yX5_error]
def wsL_law_r16 : List Cond := [Cond.selects RX5 yX5_error yX5_error, Cond.code yX5_error cX5_error 4 (some .int), Cond.methodLink RL 69 yX4_uneven, Cond.instanceMethod yX4_uneven, Cond.selects RX4 yX4_uneven yX4_uneven, Cond.code yX4_uneven cX4_uneven 2 (some .int), Cond.methodLink RX4 126 yX2_unevenness, Cond.instanceMethod yX2_unevenness, Cond.selects RX2 yX2_unevenness yX2_unevenness, Cond.code yX2_unevenness cX2_unevenness 4 (some .int), Cond.methodLink RX2 56 yX2_sizeOf, Cond.instanceMethod yX2_sizeOf, Cond.selects RX2 yX2_sizeOf yX2_sizeOf, Cond.code yX2_sizeOf cX2_sizeOf 2 (some .int), Cond.methodLink RX2 53 yX2_errorOf, Cond.methodLink RX2 59 yX2_together, Cond.static yX2_together, Cond.code yX2_together cX2_together 3 (some .int), Cond.methodLink RX2 63 Lib.Math.max.name, Cond.static Lib.Math.max.name, Cond.code Lib.Math.max.name Lib.Math.max.code 2 (some .int), Cond.methodLink RL 72 yX5_uneven, Cond.instanceMethod yX5_uneven, Cond.selects RX5 yX5_uneven yX5_uneven]
def wsL_law_r17 : List Cond := [Cond.code yX5_uneven cX5_uneven 2 (some .int), Cond.methodLink RX5 116 yX5_unevenOf, Cond.instanceMethod yX5_unevenOf, Cond.selects RX5 yX5_unevenOf yX5_unevenOf, Cond.code yX5_unevenOf cX5_unevenOf 4 (some .int), Cond.methodLink RX5 112 yX5_with, Cond.static yX5_with, Cond.code yX5_with cX5_with 3 (some .int), Cond.methodLink RL 73 yX4_best, Cond.instanceMethod yX4_best, Cond.selects RX4 yX4_best yX4_best, Cond.code yX4_best cX4_best 2 (some .int), Cond.methodLink RX4 130 yX2_settle, Cond.instanceMethod yX2_settle, Cond.selects RX2 yX2_settle yX2_settle, Cond.code yX2_settle cX2_settle 5 (some .int), Cond.methodLink RX2 67 yX2_weighLast, Cond.instanceMethod yX2_weighLast, Cond.selects RX2 yX2_weighLast yX2_weighLast, Cond.code yX2_weighLast cX2_weighLast 4 none, Cond.methodLink RX2 82 yX2_spot, Cond.static yX2_spot, Cond.code yX2_spot cX2_spot 3 (some .int), Cond.methodLink RX2 70 yX2_weigh]
def wsL_law_r18 : List Cond := [Cond.instanceMethod yX2_weigh, Cond.selects RX2 yX2_weigh yX2_weigh, Cond.code yX2_weigh cX2_weigh 7 none, Cond.methodLink RX2 86 Lib.Math.min.name, Cond.static Lib.Math.min.name, Cond.code Lib.Math.min.name Lib.Math.min.code 2 (some .int), Cond.methodLink RX2 89 yX2_leastRest, Cond.instanceMethod yX2_leastRest, Cond.selects RX2 yX2_leastRest yX2_leastRest, Cond.code yX2_leastRest cX2_leastRest 14 (some .int), Cond.constant RX2 92 (1000000), Cond.methodLink RX2 93 yX2_highestAfter, Cond.instanceMethod yX2_highestAfter, Cond.selects RX2 yX2_highestAfter yX2_highestAfter, Cond.code yX2_highestAfter cX2_highestAfter 3 (some .int), Cond.methodLink RX2 96 yX2_lowestAfter, Cond.instanceMethod yX2_lowestAfter, Cond.selects RX2 yX2_lowestAfter yX2_lowestAfter, Cond.code yX2_lowestAfter cX2_lowestAfter 3 (some .int), Cond.methodLink RX2 74 yX2_settleFirstTwo, Cond.instanceMethod yX2_settleFirstTwo, Cond.selects RX2 yX2_settleFirstTwo yX2_settleFirstTwo, Cond.code yX2_settleFirstTwo cX2_settleFirstTwo 8 (some .int), Cond.methodLink RX2 78 yX2_lesserAfter]
def wsL_law_r19 : List Cond := [Cond.instanceMethod yX2_lesserAfter, Cond.selects RX2 yX2_lesserAfter yX2_lesserAfter, Cond.code yX2_lesserAfter cX2_lesserAfter 12 (some .int), Cond.methodLink RL 76 yX5_best, Cond.instanceMethod yX5_best, Cond.selects RX5 yX5_best yX5_best, Cond.code yX5_best cX5_best 11 (some .int), Cond.methodLink RX5 123 yX5_layLeast, Cond.instanceMethod yX5_layLeast, Cond.selects RX5 yX5_layLeast yX5_layLeast, Cond.code yX5_layLeast cX5_layLeast 10 none, Cond.methodLink RX5 119 yX5_goes, Cond.instanceMethod yX5_goes, Cond.selects RX5 yX5_goes yX5_goes, Cond.code yX5_goes cX5_goes 5 (some .boolean), Cond.methodLink RL 77 yX4_kind, Cond.instanceMethod yX4_kind, Cond.selects RX4 yX4_kind yX4_kind, Cond.code yX4_kind cX4_kind 4 (some .int), Cond.methodLink RX4 133 yX3_count, Cond.instanceMethod yX3_count, Cond.selects RX3 yX3_count yX3_count, Cond.code yX3_count cX3_count 1 (some .int), Cond.methodLink RX4 134 yX3_add]
def wsL_law_r20 : List Cond := [Cond.instanceMethod yX3_add, Cond.selects RX3 yX3_add yX3_add, Cond.code yX3_add cX3_add 4 (some .int), Cond.methodLink RL 80 yX5_kind, Cond.instanceMethod yX5_kind, Cond.selects RX5 yX5_kind yX5_kind, Cond.code yX5_kind cX5_kind 4 (some .int), Cond.methodLink RL 81 yX4_canLie, Cond.instanceMethod yX4_canLie, Cond.selects RX4 yX4_canLie yX4_canLie, Cond.code yX4_canLie cX4_canLie 3 (some .int), Cond.methodLink RX4 137 yX3_lies, Cond.instanceMethod yX3_lies, Cond.selects RX3 yX3_lies yX3_lies, Cond.code yX3_lies cX3_lies 5 (some .boolean), Cond.methodLink RX3 35 yX2_places, Cond.methodLink RX3 41 yX2_sizeOf, Cond.methodLink RL 84 yX5_canLie, Cond.instanceMethod yX5_canLie, Cond.selects RX5 yX5_canLie yX5_canLie, Cond.code yX5_canLie cX5_canLie 3 (some .int), Cond.methodLink RX5 127 yX5_lies, Cond.instanceMethod yX5_lies, Cond.selects RX5 yX5_lies yX5_lies]
def wsL_law_r21 : List Cond := [Cond.code yX5_lies cX5_lies 5 (some .boolean), Cond.methodLink RL 85 yX4_cut, Cond.instanceMethod yX4_cut, Cond.selects RX4 yX4_cut yX4_cut, Cond.code yX4_cut cX4_cut 1 (some .int), Cond.methodLink RX4 140 yX3_plan, Cond.instanceMethod yX3_plan, Cond.selects RX3 yX3_plan yX3_plan, Cond.code yX3_plan cX3_plan 3 (some .int), Cond.methodLink RX3 45 yX3_weigh, Cond.instanceMethod yX3_weigh, Cond.selects RX3 yX3_weigh yX3_weigh, Cond.code yX3_weigh cX3_weigh 6 none, Cond.methodLink RX3 52 yX3_lies, Cond.methodLink RX3 49 yX3_dropCovered, Cond.instanceMethod yX3_dropCovered, Cond.selects RX3 yX3_dropCovered yX3_dropCovered, Cond.code yX3_dropCovered cX3_dropCovered 4 none, Cond.methodLink RL 88 yX5_cut, Cond.instanceMethod yX5_cut, Cond.selects RX5 yX5_cut yX5_cut, Cond.code yX5_cut cX5_cut 1 (some .int), Cond.methodLink RX5 130 yX5_layCut, Cond.instanceMethod yX5_layCut]
def wsL_law_r22 : List Cond := [Cond.selects RX5 yX5_layCut yX5_layCut, Cond.code yX5_layCut cX5_layCut 4 none, Cond.methodLink RL 89 yX4_cutAt, Cond.instanceMethod yX4_cutAt, Cond.selects RX4 yX4_cutAt yX4_cutAt, Cond.code yX4_cutAt cX4_cutAt 2 (some .int), Cond.methodLink RX4 143 yX3_plannedAt, Cond.instanceMethod yX3_plannedAt, Cond.selects RX3 yX3_plannedAt yX3_plannedAt, Cond.code yX3_plannedAt cX3_plannedAt 2 (some .int), Cond.methodLink RL 92 yX5_cutAt, Cond.instanceMethod yX5_cutAt, Cond.selects RX5 yX5_cutAt yX5_cutAt, Cond.code yX5_cutAt cX5_cutAt 3 (some .int), Cond.methodLink RL 93 yX4_grade, Cond.instanceMethod yX4_grade, Cond.selects RX4 yX4_grade yX4_grade, Cond.code yX4_grade cX4_grade 1 (some .int), Cond.methodLink RX4 146 yX1_count, Cond.instanceMethod yX1_count, Cond.selects RX1 yX1_count yX1_count, Cond.code yX1_count cX1_count 1 (some .int), Cond.fieldLink RX1 24 "BroadSheet$Grades" "count" "I", Cond.methodLink RX4 147 yX1_add]
def wsL_law_r23 : List Cond := [Cond.instanceMethod yX1_add, Cond.selects RX1 yX1_add yX1_add, Cond.code yX1_add cX1_add 1 (some .int), Cond.fieldLink RX1 28 "BroadSheet$Grades" "weighed" "Z", Cond.methodLink RL 96 yX5_grade, Cond.instanceMethod yX5_grade, Cond.selects RX5 yX5_grade yX5_grade, Cond.code yX5_grade cX5_grade 2 (some .int), Cond.fieldLink RX5 133 "BroadSheetModel" "grades" "I", Cond.methodLink RL 97 yX4_cost, Cond.instanceMethod yX4_cost, Cond.selects RX4 yX4_cost yX4_cost, Cond.code yX4_cost cX4_cost 4 (some .int), Cond.methodLink RX4 149 yX4_isGrade, Cond.instanceMethod yX4_isGrade, Cond.selects RX4 yX4_isGrade yX4_isGrade, Cond.code yX4_isGrade cX4_isGrade 2 (some .boolean), Cond.methodLink RX4 152 yX1_putCost, Cond.instanceMethod yX1_putCost, Cond.selects RX1 yX1_putCost yX1_putCost, Cond.code yX1_putCost cX1_putCost 5 (some .int), Cond.methodLink RX1 32 yX1_costOf, Cond.instanceMethod yX1_costOf, Cond.selects RX1 yX1_costOf yX1_costOf]
def wsL_law_r24 : List Cond := [Cond.code yX1_costOf cX1_costOf 3 (some .int), Cond.methodLink RL 100 yX5_cost, Cond.instanceMethod yX5_cost, Cond.selects RX5 yX5_cost yX5_cost, Cond.code yX5_cost cX5_cost 5 (some .int), Cond.methodLink RX5 136 yX5_isGrade, Cond.instanceMethod yX5_isGrade, Cond.selects RX5 yX5_isGrade yX5_isGrade, Cond.code yX5_isGrade cX5_isGrade 2 (some .boolean), Cond.methodLink RL 101 yX4_tour, Cond.instanceMethod yX4_tour, Cond.selects RX4 yX4_tour yX4_tour, Cond.code yX4_tour cX4_tour 2 (some .int), Cond.methodLink RX4 155 yX1_leastCosts, Cond.instanceMethod yX1_leastCosts, Cond.selects RX1 yX1_leastCosts yX1_leastCosts, Cond.code yX1_leastCosts cX1_leastCosts 2 (some .int), Cond.methodLink RX1 36 yX1_weighAll, Cond.instanceMethod yX1_weighAll, Cond.selects RX1 yX1_weighAll yX1_weighAll, Cond.code yX1_weighAll cX1_weighAll 3 none, Cond.methodLink RX1 52 yX1_has, Cond.static yX1_has, Cond.code yX1_has cX1_has 2 (some .boolean)]
def wsL_law_r25 : List Cond := [Cond.methodLink RX1 46 yX1_lesserStep, Cond.instanceMethod yX1_lesserStep, Cond.selects RX1 yX1_lesserStep yX1_lesserStep, Cond.code yX1_lesserStep cX1_lesserStep 7 (some .int), Cond.constant RX1 60 (1000000), Cond.methodLink RX1 56 yX1_throughStep, Cond.instanceMethod yX1_throughStep, Cond.selects RX1 yX1_throughStep yX1_throughStep, Cond.code yX1_throughStep cX1_throughStep 4 (some .int), Cond.methodLink RX1 49 yX1_without, Cond.static yX1_without, Cond.code yX1_without cX1_without 2 (some .int), Cond.methodLink RX1 43 yX1_restOf, Cond.instanceMethod yX1_restOf, Cond.selects RX1 yX1_restOf yX1_restOf, Cond.code yX1_restOf cX1_restOf 3 (some .int), Cond.methodLink RX1 39 yX1_allBut, Cond.instanceMethod yX1_allBut, Cond.selects RX1 yX1_allBut yX1_allBut, Cond.code yX1_allBut cX1_allBut 2 (some .int), Cond.methodLink RL 104 yX5_tour, Cond.instanceMethod yX5_tour, Cond.selects RX5 yX5_tour yX5_tour, Cond.code yX5_tour cX5_tour 2 (some .int)]
def wsL_law_r26 : List Cond := [Cond.methodLink RX5 139 yX5_layRest, Cond.instanceMethod yX5_layRest, Cond.selects RX5 yX5_layRest yX5_layRest, Cond.code yX5_layRest cX5_layRest 6 none, Cond.methodLink RL 105 yX4_tourAt, Cond.instanceMethod yX4_tourAt, Cond.selects RX4 yX4_tourAt yX4_tourAt, Cond.code yX4_tourAt cX4_tourAt 3 (some .int), Cond.methodLink RX4 158 yX1_stepOf, Cond.instanceMethod yX1_stepOf, Cond.selects RX1 yX1_stepOf yX1_stepOf, Cond.code yX1_stepOf cX1_stepOf 6 (some .int), Cond.methodLink RL 108 yX5_tourAt, Cond.instanceMethod yX5_tourAt, Cond.selects RX5 yX5_tourAt yX5_tourAt, Cond.code yX5_tourAt cX5_tourAt 7 (some .int), Cond.methodLink RL 109 yX4_told, Cond.instanceMethod yX4_told, Cond.selects RX4 yX4_told yX4_told, Cond.code yX4_told cX4_told 2 (some .int), Cond.methodLink RX4 161 yX0_fittingCount, Cond.instanceMethod yX0_fittingCount, Cond.selects RX0 yX0_fittingCount yX0_fittingCount, Cond.code yX0_fittingCount cX0_fittingCount 1 (some .int)]
def wsL_law_r27 : List Cond := [Cond.methodLink RX4 164 yX2_nextLaw, Cond.instanceMethod yX2_nextLaw, Cond.selects RX2 yX2_nextLaw yX2_nextLaw, Cond.code yX2_nextLaw cX2_nextLaw 1 (some .int), Cond.methodLink RX4 167 yX2_bendLaw, Cond.instanceMethod yX2_bendLaw, Cond.selects RX2 yX2_bendLaw yX2_bendLaw, Cond.code yX2_bendLaw cX2_bendLaw 1 (some .int), Cond.methodLink RX4 170 yX2_mainSpread, Cond.instanceMethod yX2_mainSpread, Cond.selects RX2 yX2_mainSpread yX2_mainSpread, Cond.code yX2_mainSpread cX2_mainSpread 1 (some .int), Cond.methodLink RX4 173 yX2_sideSpread, Cond.instanceMethod yX2_sideSpread, Cond.selects RX2 yX2_sideSpread yX2_sideSpread, Cond.code yX2_sideSpread cX2_sideSpread 1 (some .int), Cond.methodLink RL 112 yX5_told, Cond.instanceMethod yX5_told, Cond.selects RX5 yX5_told yX5_told, Cond.code yX5_told cX5_told 2 (some .int), Cond.methodLink RX5 142 yX5_fitting, Cond.instanceMethod yX5_fitting, Cond.selects RX5 yX5_fitting yX5_fitting, Cond.code yX5_fitting cX5_fitting 3 (some .int)]
def wsL_law : List Cond := (wsL_law_r1 ++ (wsL_law_r2 ++ (wsL_law_r3 ++ (wsL_law_r4 ++ (wsL_law_r5 ++ (wsL_law_r6 ++ (wsL_law_r7 ++ (wsL_law_r8 ++ (wsL_law_r9 ++ (wsL_law_r10 ++ (wsL_law_r11 ++ (wsL_law_r12 ++ (wsL_law_r13 ++ (wsL_law_r14 ++ (wsL_law_r15 ++ (wsL_law_r16 ++ (wsL_law_r17 ++ (wsL_law_r18 ++ (wsL_law_r19 ++ (wsL_law_r20 ++ (wsL_law_r21 ++ (wsL_law_r22 ++ (wsL_law_r23 ++ (wsL_law_r24 ++ (wsL_law_r25 ++ (wsL_law_r26 ++ wsL_law_r27)))))))))))))))))))))))))) ++ wsX40 ++ wsX50 ++ wsX00 ++ wsX20 ++ wsX30 ++ wsX10 ++ ([] : List Cond)
theorem inlX0 : ∀ w ∈ wsX00, w ∈ wsL_law := fun _ h => List.mem_append_left _ (List.mem_append_left _ (List.mem_append_left _ (List.mem_append_left _ (List.mem_append_right _ h))))
theorem inlX1 : ∀ w ∈ wsX10, w ∈ wsL_law := fun _ h => List.mem_append_left _ (List.mem_append_right _ h)
theorem inlX2 : ∀ w ∈ wsX20, w ∈ wsL_law := fun _ h => List.mem_append_left _ (List.mem_append_left _ (List.mem_append_left _ (List.mem_append_right _ h)))
theorem inlX3 : ∀ w ∈ wsX30, w ∈ wsL_law := fun _ h => List.mem_append_left _ (List.mem_append_left _ (List.mem_append_right _ h))
theorem inlX4 : ∀ w ∈ wsX40, w ∈ wsL_law := fun _ h => List.mem_append_left _ (List.mem_append_left _ (List.mem_append_left _ (List.mem_append_left _ (List.mem_append_left _ (List.mem_append_left _ (List.mem_append_right _ h))))))
theorem inlX5 : ∀ w ∈ wsX50, w ∈ wsL_law := fun _ h => List.mem_append_left _ (List.mem_append_left _ (List.mem_append_left _ (List.mem_append_left _ (List.mem_append_left _ (List.mem_append_right _ h)))))
theorem inJ9 : ∀ w ∈ wsJ90, w ∈ lw_tbl := by decide +kernel
theorem inJ7 : ∀ w ∈ wsJ70, w ∈ lw_tbl := by decide +kernel
abbrev vwCl : List vw_C := [(RX0, TX0, 8), (RX1, TX1, 4), (RX2, TX2, 8), (RX3, TX3, 7), (RX4, TX4, 4), (RX5, TX5, 24)]
end
section
/-! ===== the layer J: numbers are Int, cells are numbered, the state is one function (cell, place) -> Int ===== -/
abbrev AV : Type := Int ⊕ Nat
abbrev AG : Type := Nat → Nat → Int
abbrev AF : Type := Option (Option Nat)
abbrev AC : Type := (Nat × List AF) ⊕ (Bool × Nat)
abbrev AL : Type := List (Option AV)
abbrev aR (x : Int) : Prop := -2147483648 ≤ x ∧ x ≤ 2147483647
def aW (g : AG) : Prop := ∀ k j, aR (g k j)
def i3 (x : Int) : Int32 := Int32.ofInt x
def aset (g : AG) (k j : Nat) (v : Int) : AG := fun k' j' => if k' = k ∧ j' = j then v else g k' j'
def a_v (q : Nat → Nat) : AV → Value
  | .inl x => .int (i3 x)
  | .inr k => .ref (q k)
def a_f (q : Nat → Nat) (g : AG) (k j : Nat) : AF → Value
  | none => .int (i3 (g k j))
  | some none => .null
  | some (some k') => .ref (q k')
def a_c (cI cB : ClassId) (q : Nat → Nat) (g : AG) (k : Nat) : AC → Nat × va_E
  | .inl o => (q k, .inr (o.1, o.2.mapIdx (fun j f => a_f q g k j f)))
  | .inr a => (q k, .inl ((if a.1 then cB else cI), a.2, .inl (fun j => i3 (g k j))))
def a_w (cI cB : ClassId) (q : Nat → Nat) (g : AG) (Sh : List AC) : va_W := Sh.mapIdx (fun k c => a_c cI cB q g k c)
def a_L (q : Nat → Nat) (ls : Array Slot) (L : AL) : Prop := ∃ l : List (Nat × Value), lv_has ls L.length l ∧ ∀ (i : Nat) (v : AV), L[i]? = some (some v) → (i, a_v q v) ∈ l
abbrev a_t (cI cB : ClassId) : List (ClassId × FieldType) := [(cI, .int), (cB, .boolean)]
abbrev JT : Type := (Nat → Nat) → List AC → Nat → Nat → Nat → AL → List AV → AG → Prop
abbrev KT : Type := Option Int → (Nat → Nat) → List AC → Nat → Nat → AG → Prop
def a_J (p : Program) (l : Launch) (e : Env) (R : Room) (s : State) (m : MethodId) (args : Array Value) (below : List Frame) (meth : Method) (c : Code) (A : Nat → Prop) (D : va_G) (cI cB : ClassId) (Q : State → Prop) : JT := fun q Sh ce sl pc L st g =>
  aW g → ∀ (H : Heap) (locs : List Loc) (ls : Array Slot), a_L q ls L → va_P D vwCl (a_w cI cB q g Sh) H → va_D A (a_w cI cB q g Sh) → va_S A s.heap H locs → W p l e R s m args below meth c H locs ce sl Q (F0 m pc ls (st.map (a_v q)))
/-- what a method's walk stands on: everything of the machine is hidden here -/
def JR (own : String) (cc : ByteArray) (nL : Nat) (Ts : List Cond) (R : Room) (K : KT) (J : JT) : Prop :=
  ∃ (p : Program) (l : Launch) (e : Env) (s : State) (m : MethodId) (args : Array Value) (below : List Frame) (meth : Method) (c : Code) (A : Nat → Prop) (D : va_G) (cI cB : ClassId) (Q : State → Prop),
    J = a_J p l e R s m args below meth c A D cI cB Q ∧ p.tables.exec = Jvm.exec ∧ c.code = cc ∧ c.maxLocals = nL ∧ s.vm.findClass own = some m.cls ∧ (∀ w ∈ Ts, w.before args s = true) ∧ va_K D vwCl (a_t cI cB) s ∧ (∀ q, s.heap.size ≤ q → A q) ∧
    ∀ (r : Option Int) (q : Nat → Nat) (Sh : List AC) (ce sl : Nat) (g : AG) (H : Heap) (locs : List Loc) (ls : Array Slot) (pc : Nat), K r q Sh ce sl g → aW g → va_P D vwCl (a_w cI cB q g Sh) H → va_D A (a_w cI cB q g Sh) → va_S A s.heap H locs →
      (∀ x, r = some x → decode cc pc = .ok (.ireturn, 1) → W p l e R s m args below meth c H locs ce sl Q (F0 m pc ls [.int (i3 x)])) ∧ (r = none → decode cc pc = .ok (.return_, 1) → W p l e R s m args below meth c H locs ce sl Q (F0 m pc ls []))
/-! numbers -/
theorem i3_toInt {x : Int} (h : aR x) : (i3 x).toInt = x := Int32.toInt_ofInt_of_le (by have := h.1; omega) (by have := h.2; omega)
theorem i3_lt {x y : Int} (hx : aR x) (hy : aR y) : i3 x < i3 y ↔ x < y := by rw [Int32.lt_iff_toInt_lt, i3_toInt hx, i3_toInt hy]
theorem i3_le {x y : Int} (hx : aR x) (hy : aR y) : i3 x ≤ i3 y ↔ x ≤ y := by rw [Int32.le_iff_toInt_le, i3_toInt hx, i3_toInt hy]
theorem i3_eq {x y : Int} (hx : aR x) (hy : aR y) : i3 x = i3 y ↔ x = y := by rw [← Int32.toInt_inj, i3_toInt hx, i3_toInt hy]
theorem i3_0 : i3 0 = 0 := by decide +kernel
theorem aR_0 : aR 0 := ⟨by decide, by decide⟩
theorem aR_of (x : Int32) : aR x.toInt := ⟨by have := Int32.le_toInt x; omega, by have := Int32.toInt_lt x; omega⟩
theorem i3_of (x : Int32) : i3 x.toInt = x := Int32.ofInt_toInt x
theorem i3_clamp {i : Int} {n : Nat} (h0 : 0 ≤ i) (h : i < n) (hn : n ≤ 2147483647) : (i3 i).toNatClampNeg = i.toNat := by
  show ((i3 i).toInt).toNat = i.toNat
  rw [i3_toInt ⟨by omega, by omega⟩]
theorem i3_in {i : Int} {n : Nat} (h0 : 0 ≤ i) (h : i < n) (hn : n ≤ 2147483647) : vp_in (i3 i) n := by
  rw [vp_in_iff, i3_toInt ⟨by omega, by omega⟩]
  exact ⟨h0, h⟩
theorem aset_s (g : AG) (k j : Nat) (v : Int) : aset g k j v k j = v := by simp [aset]
theorem aset_n (g : AG) {k j k' j' : Nat} (v : Int) (h : k' ≠ k ∨ j' ≠ j) : aset g k j v k' j' = g k' j' := by
  unfold aset
  rw [if_neg]
  rintro ⟨a, b⟩
  rcases h with h | h
  · exact h a
  · exact h b
theorem aset_W {g : AG} (hw : aW g) {k j : Nat} {v : Int} (hv : aR v) : aW (aset g k j v) := by
  intro a b
  unfold aset
  split
  · exact hv
  · exact hw a b
/-! the world -/
theorem a_w_at {cI cB : ClassId} {q : Nat → Nat} {g : AG} {Sh : List AC} {k : Nat} {c : AC} (h : Sh[k]? = some c) : (a_w cI cB q g Sh)[k]? = some (a_c cI cB q g k c) := by
  unfold a_w
  rw [List.getElem?_mapIdx, h]
  rfl
theorem a_c_ne {cI cB : ClassId} {q : Nat → Nat} {g : AG} {k k' j : Nat} {v : Int} (h : k' ≠ k) (c : AC) : a_c cI cB q (aset g k j v) k' c = a_c cI cB q g k' c := by
  have e : ∀ j', aset g k j v k' j' = g k' j' := fun j' => aset_n g v (Or.inl h)
  cases c with
  | inl o =>
    simp only [a_c]
    congr 3
    congr 1
    funext j' f
    rcases f with _ | _ | f <;> simp [a_f, e]
  | inr a => simp only [a_c, e]
theorem a_w_put {cI cB : ClassId} {q : Nat → Nat} {g : AG} {Sh : List AC} {k j : Nat} {v : Int} {c : AC} (h : Sh[k]? = some c) : (a_w cI cB q g Sh).set k (a_c cI cB q (aset g k j v) k c) = a_w cI cB q (aset g k j v) Sh := by
  have hk : k < Sh.length := (List.getElem?_eq_some_iff.mp h).1
  apply List.ext_getElem?
  intro i
  by_cases hi : i = k
  · subst hi
    rw [List.getElem?_set_self (by unfold a_w; simpa using hk), a_w_at h]
  · rw [List.getElem?_set_ne (Ne.symm hi)]
    unfold a_w
    rw [List.getElem?_mapIdx, List.getElem?_mapIdx]
    cases hc : Sh[i]? with
    | none => rfl
    | some c' => exact congrArg some (a_c_ne hi c').symm
theorem a_c_obj {cI cB : ClassId} {q : Nat → Nat} {g : AG} {k j : Nat} {v : Int} {ci : Nat} {fs : List AF} (hf : fs[j]? = some none) : a_c cI cB q (aset g k j v) k (.inl (ci, fs)) = (q k, .inr (ci, (fs.mapIdx (fun j f => a_f q g k j f)).set j (.int (i3 v)))) := by
  have hj : j < fs.length := (List.getElem?_eq_some_iff.mp hf).1
  simp only [a_c]
  congr 3
  apply List.ext_getElem?
  intro i
  by_cases hi : i = j
  · subst hi
    rw [List.getElem?_set_self (by simpa using hj), List.getElem?_mapIdx, hf]
    simp [a_f, aset_s]
  · rw [List.getElem?_set_ne (Ne.symm hi), List.getElem?_mapIdx, List.getElem?_mapIdx]
    cases hc : fs[i]? with
    | none => rfl
    | some f =>
      have e : aset g k j v k i = g k i := aset_n g v (Or.inr hi)
      rcases f with _ | _ | f <;> simp [a_f, e]
theorem a_c_arr {cI cB : ClassId} {q : Nat → Nat} {g : AG} {k j : Nat} {v : Int} {b : Bool} {n : Nat} : a_c cI cB q (aset g k j v) k (.inr (b, n)) = (q k, .inl ((if b then cB else cI), n, .inl (upd (fun j => i3 (g k j)) j (i3 v)))) := by
  simp only [a_c]
  congr 4
  refine congrArg Sum.inl (funext fun i => ?_)
  by_cases hi : i = j
  · subst hi
    simp [aset_s, upd]
  · simp [aset_n g v (Or.inr hi), upd, hi]
/-! locals -/
theorem a_L_at {q : Nat → Nat} {ls : Array Slot} {L : AL} {i : Nat} {v : AV} (h : a_L q ls L) (hi : L[i]? = some (some v)) : ls[i]? = some (.val (a_v q v)) := by
  obtain ⟨l, h1, h2⟩ := h
  exact h1.2.2 _ (h2 i v hi)
theorem a_v_cat (q : Nat → Nat) (v : AV) : (a_v q v).category = 1 := by cases v <;> rfl
theorem a_L_set {q : Nat → Nat} {ls' : Array Slot} {L : AL} {l : List (Nat × Value)} {i : Nat} {v : AV} (h2 : ∀ (i : Nat) (v : AV), L[i]? = some (some v) → (i, a_v q v) ∈ l) (hi : i < L.length) (h' : lv_has ls' L.length ((i, a_v q v) :: l.filter (fun q => !(q.1 == i) && !(q.1 + 1 == i && q.2.category == 2)))) : a_L q ls' (L.set i (some v)) := by
  refine ⟨_, by rw [List.length_set]; exact h', fun j w hj => ?_⟩
  by_cases hji : j = i
  · subst hji
    rw [List.getElem?_set_self hi] at hj
    cases hj
    exact List.mem_cons_self
  · rw [List.getElem?_set_ne (Ne.symm hji)] at hj
    refine List.mem_cons_of_mem _ (List.mem_filter.mpr ⟨h2 j w hj, ?_⟩)
    simp [hji, a_v_cat]
section JRows
variable {own : String} {cc : ByteArray} {nL : Nat} {Ts : List Cond} {R : Room} {K : KT} {J : JT} {q : Nat → Nat} {Sh : List AC} {ce sl pc : Nat} {L : AL} {st : List AV} {g : AG}
theorem j_wf (C : JR own cc nL Ts R K J) (k : aW g → J q Sh ce sl pc L st g) : J q Sh ce sl pc L st g := by
  obtain ⟨p, l, e, s, m, args, below, meth, c, A, D, cI, cB, Q, rfl, hx, hb, hml, hown, hts, hK, hA, hret⟩ := C
  intro hw H locs ls hl hP hD hS
  exact k hw hw H locs ls hl hP hD hS
theorem j_iconst (C : JR own cc nL Ts R K J) {n : Int} (hd : decode cc pc = .ok (.iconst n, 1)) (k : J q Sh ce sl (pc + 1) L (.inl n :: st) g) : J q Sh ce sl pc L st g := by
  obtain ⟨p, l, e, s, m, args, below, meth, c, A, D, cI, cB, Q, rfl, hx, hb, hml, hown, hts, hK, hA, hret⟩ := C
  intro hw H locs ls hl hP hD hS
  exact lv_iconst hx hb hd rfl (k hw H locs ls hl hP hD hS)
theorem j_bipush (C : JR own cc nL Ts R K J) {n : Int} (hd : decode cc pc = .ok (.bipush n, 2)) (hn : (Int8.ofInt n).toInt32 = i3 n) (k : J q Sh ce sl (pc + 2) L (.inl n :: st) g) : J q Sh ce sl pc L st g := by
  obtain ⟨p, l, e, s, m, args, below, meth, c, A, D, cI, cB, Q, rfl, hx, hb, hml, hown, hts, hK, hA, hret⟩ := C
  intro hw H locs ls hl hP hD hS
  exact lv_bipush hx hb hd hn (k hw H locs ls hl hP hD hS)
theorem j_sipush (C : JR own cc nL Ts R K J) {n : Int} (hd : decode cc pc = .ok (.sipush n, 3)) (hn : (Int16.ofInt n).toInt32 = i3 n) (k : J q Sh ce sl (pc + 3) L (.inl n :: st) g) : J q Sh ce sl pc L st g := by
  obtain ⟨p, l, e, s, m, args, below, meth, c, A, D, cI, cB, Q, rfl, hx, hb, hml, hown, hts, hK, hA, hret⟩ := C
  intro hw H locs ls hl hP hD hS
  exact lv_sipush hx hb hd hn (k hw H locs ls hl hP hD hS)
theorem j_ldc (C : JR own cc nL Ts R K J) {i : Nat} (n : Int) (hd : decode cc pc = .ok (.ldc i, 2)) (hw1 : Cond.constant own i (i3 n) ∈ Ts) (k : J q Sh ce sl (pc + 2) L (.inl n :: st) g) : J q Sh ce sl pc L st g := by
  obtain ⟨p, l, e, s, m, args, below, meth, c, A, D, cI, cB, Q, rfl, hx, hb, hml, hown, hts, hK, hA, hret⟩ := C
  intro hw H locs ls hl hP hD hS
  exact lv_ldc hx hb hown (hts _ hw1) hd (k hw H locs ls hl hP hD hS)
theorem j_iload_n (C : JR own cc nL Ts R K J) {i : Fin 4} {x : Int} (hd : decode cc pc = .ok (.iload_n i, 1)) (hi : L[(i : Nat)]? = some (some (.inl x))) (k : J q Sh ce sl (pc + 1) L (.inl x :: st) g) : J q Sh ce sl pc L st g := by
  obtain ⟨p, l, e, s, m, args, below, meth, c, A, D, cI, cB, Q, rfl, hx, hb, hml, hown, hts, hK, hA, hret⟩ := C
  intro hw H locs ls hl hP hD hS
  exact lv_iload_n hx hb hd rfl (a_L_at hl hi) (k hw H locs ls hl hP hD hS)
theorem j_iload (C : JR own cc nL Ts R K J) {i : Nat} {x : Int} (hd : decode cc pc = .ok (.iload i, 2)) (hi : L[i]? = some (some (.inl x))) (k : J q Sh ce sl (pc + 2) L (.inl x :: st) g) : J q Sh ce sl pc L st g := by
  obtain ⟨p, l, e, s, m, args, below, meth, c, A, D, cI, cB, Q, rfl, hx, hb, hml, hown, hts, hK, hA, hret⟩ := C
  intro hw H locs ls hl hP hD hS
  exact lv_iload hx hb hd (a_L_at hl hi) (k hw H locs ls hl hP hD hS)
theorem j_aload_n (C : JR own cc nL Ts R K J) {i : Fin 4} {x : Nat} (hd : decode cc pc = .ok (.aload_n i, 1)) (hi : L[(i : Nat)]? = some (some (.inr x))) (k : J q Sh ce sl (pc + 1) L (.inr x :: st) g) : J q Sh ce sl pc L st g := by
  obtain ⟨p, l, e, s, m, args, below, meth, c, A, D, cI, cB, Q, rfl, hx, hb, hml, hown, hts, hK, hA, hret⟩ := C
  intro hw H locs ls hl hP hD hS
  exact lv_aload_n hx hb hd rfl (a_L_at hl hi) (k hw H locs ls hl hP hD hS)
theorem j_istore_n (C : JR own cc nL Ts R K J) {i : Fin 4} {x : Int} (hd : decode cc pc = .ok (.istore_n i, 1)) (hi : (i : Nat) < L.length) (k : J q Sh ce sl (pc + 1) (L.set (i : Nat) (some (.inl x))) st g) : J q Sh ce sl pc L (.inl x :: st) g := by
  obtain ⟨p, l, e, s, m, args, below, meth, c, A, D, cI, cB, Q, rfl, hx, hb, hml, hown, hts, hK, hA, hret⟩ := C
  intro hw H locs ls hl hP hD hS
  obtain ⟨l0, h1, h2⟩ := hl
  exact lv_istore_n hx hb hd rfl h1 hi rfl (fun ls' h' => k hw H locs ls' (a_L_set h2 hi h') hP hD hS)
theorem j_istore (C : JR own cc nL Ts R K J) {i : Nat} {x : Int} (hd : decode cc pc = .ok (.istore i, 2)) (hi : i < L.length) (k : J q Sh ce sl (pc + 2) (L.set i (some (.inl x))) st g) : J q Sh ce sl pc L (.inl x :: st) g := by
  obtain ⟨p, l, e, s, m, args, below, meth, c, A, D, cI, cB, Q, rfl, hx, hb, hml, hown, hts, hK, hA, hret⟩ := C
  intro hw H locs ls hl hP hD hS
  obtain ⟨l0, h1, h2⟩ := hl
  exact lv_istore hx hb hd h1 hi rfl (fun ls' h' => k hw H locs ls' (a_L_set h2 hi h') hP hD hS)
theorem j_astore_n (C : JR own cc nL Ts R K J) {i : Fin 4} {x : Nat} (hd : decode cc pc = .ok (.astore_n i, 1)) (hi : (i : Nat) < L.length) (k : J q Sh ce sl (pc + 1) (L.set (i : Nat) (some (.inr x))) st g) : J q Sh ce sl pc L (.inr x :: st) g := by
  obtain ⟨p, l, e, s, m, args, below, meth, c, A, D, cI, cB, Q, rfl, hx, hb, hml, hown, hts, hK, hA, hret⟩ := C
  intro hw H locs ls hl hP hD hS
  obtain ⟨l0, h1, h2⟩ := hl
  exact lv_astore_n hx hb hd rfl h1 hi rfl (fun ls' h' => k hw H locs ls' (a_L_set h2 hi h') hP hD hS)
theorem j_iinc (C : JR own cc nL Ts R K J) {i : Nat} {n x : Int} (hd : decode cc pc = .ok (.iinc i n, 3)) (hi : L[i]? = some (some (.inl x))) (k : J q Sh ce sl (pc + 3) (L.set i (some (.inl (x + n)))) st g) : J q Sh ce sl pc L st g := by
  obtain ⟨p, l, e, s, m, args, below, meth, c, A, D, cI, cB, Q, rfl, hx, hb, hml, hown, hts, hK, hA, hret⟩ := C
  intro hw H locs ls hl hP hD hS
  obtain ⟨l0, h1, h2⟩ := hl
  have hl1 := (List.getElem?_eq_some_iff.mp hi).1
  obtain ⟨j, hj⟩ := List.getElem?_of_mem (h2 i _ hi)
  exact lv_iinc (v := i3 (x + n)) hx hb hd h1 hj (Int32.ofInt_add x n).symm hl1 rfl (fun ls' h' => k hw H locs ls' (a_L_set h2 hl1 h') hP hD hS)
theorem j_iadd (C : JR own cc nL Ts R K J) {x y : Int} (hd : decode cc pc = .ok (.iadd, 1)) (k : J q Sh ce sl (pc + 1) L (.inl (x + y) :: st) g) : J q Sh ce sl pc L (.inl y :: .inl x :: st) g := by
  obtain ⟨p, l, e, s, m, args, below, meth, c, A, D, cI, cB, Q, rfl, hx, hb, hml, hown, hts, hK, hA, hret⟩ := C
  intro hw H locs ls hl hP hD hS
  have h := k hw H locs ls hl hP hD hS
  have e9 : i3 (x + y) = i3 x + i3 y := Int32.ofInt_add x y
  refine lv_iadd hx hb hd ?_
  rw [← e9]
  exact h
theorem j_isub (C : JR own cc nL Ts R K J) {x y : Int} (hd : decode cc pc = .ok (.isub, 1)) (k : J q Sh ce sl (pc + 1) L (.inl (x - y) :: st) g) : J q Sh ce sl pc L (.inl y :: .inl x :: st) g := by
  obtain ⟨p, l, e, s, m, args, below, meth, c, A, D, cI, cB, Q, rfl, hx, hb, hml, hown, hts, hK, hA, hret⟩ := C
  intro hw H locs ls hl hP hD hS
  have h := k hw H locs ls hl hP hD hS
  have e9 : i3 (x - y) = i3 x - i3 y := Int32.ofInt_sub x y
  refine lv_isub hx hb hd ?_
  rw [← e9]
  exact h
theorem j_imul (C : JR own cc nL Ts R K J) {x y : Int} (hd : decode cc pc = .ok (.imul, 1)) (k : J q Sh ce sl (pc + 1) L (.inl (x * y) :: st) g) : J q Sh ce sl pc L (.inl y :: .inl x :: st) g := by
  obtain ⟨p, l, e, s, m, args, below, meth, c, A, D, cI, cB, Q, rfl, hx, hb, hml, hown, hts, hK, hA, hret⟩ := C
  intro hw H locs ls hl hP hD hS
  have h := k hw H locs ls hl hP hD hS
  have e9 : i3 (x * y) = i3 x * i3 y := Int32.ofInt_mul x y
  refine lv_imul hx hb hd ?_
  rw [← e9]
  exact h
theorem j_ineg (C : JR own cc nL Ts R K J) {x : Int} (hd : decode cc pc = .ok (.ineg, 1)) (k : J q Sh ce sl (pc + 1) L (.inl (-x) :: st) g) : J q Sh ce sl pc L (.inl x :: st) g := by
  obtain ⟨p, l, e, s, m, args, below, meth, c, A, D, cI, cB, Q, rfl, hx, hb, hml, hown, hts, hK, hA, hret⟩ := C
  intro hw H locs ls hl hP hD hS
  have h := k hw H locs ls hl hP hD hS
  have e9 : i3 (-x) = - i3 x := Int32.ofInt_neg x
  refine lv_ineg hx hb hd ?_
  have e8 : (0 - i3 x) = - i3 x := by rw [Int32.zero_sub]
  first | (rw [← e9]; exact h) | (rw [e8, ← e9]; exact h)
theorem j_iand (C : JR own cc nL Ts R K J) {x y : Int} (hd : decode cc pc = .ok (.iand, 1)) {z : Int} (hz : i3 z = i3 x &&& i3 y) (k : J q Sh ce sl (pc + 1) L (.inl z :: st) g) : J q Sh ce sl pc L (.inl y :: .inl x :: st) g := by
  obtain ⟨p, l, e, s, m, args, below, meth, c, A, D, cI, cB, Q, rfl, hx, hb, hml, hown, hts, hK, hA, hret⟩ := C
  intro hw H locs ls hl hP hD hS
  have h := k hw H locs ls hl hP hD hS
  refine lv_iand hx hb hd ?_
  rw [← hz]
  exact h
theorem j_ior (C : JR own cc nL Ts R K J) {x y : Int} (hd : decode cc pc = .ok (.ior, 1)) {z : Int} (hz : i3 z = i3 x ||| i3 y) (k : J q Sh ce sl (pc + 1) L (.inl z :: st) g) : J q Sh ce sl pc L (.inl y :: .inl x :: st) g := by
  obtain ⟨p, l, e, s, m, args, below, meth, c, A, D, cI, cB, Q, rfl, hx, hb, hml, hown, hts, hK, hA, hret⟩ := C
  intro hw H locs ls hl hP hD hS
  have h := k hw H locs ls hl hP hD hS
  refine lv_ior hx hb hd ?_
  rw [← hz]
  exact h
theorem j_ixor (C : JR own cc nL Ts R K J) {x y : Int} (hd : decode cc pc = .ok (.ixor, 1)) {z : Int} (hz : i3 z = i3 x ^^^ i3 y) (k : J q Sh ce sl (pc + 1) L (.inl z :: st) g) : J q Sh ce sl pc L (.inl y :: .inl x :: st) g := by
  obtain ⟨p, l, e, s, m, args, below, meth, c, A, D, cI, cB, Q, rfl, hx, hb, hml, hown, hts, hK, hA, hret⟩ := C
  intro hw H locs ls hl hP hD hS
  have h := k hw H locs ls hl hP hD hS
  refine lv_ixor hx hb hd ?_
  rw [← hz]
  exact h
theorem j_ishl (C : JR own cc nL Ts R K J) {x y : Int} (hd : decode cc pc = .ok (.ishl, 1)) {z : Int} (hz : i3 z = i3 x <<< (i3 y &&& 31)) (k : J q Sh ce sl (pc + 1) L (.inl z :: st) g) : J q Sh ce sl pc L (.inl y :: .inl x :: st) g := by
  obtain ⟨p, l, e, s, m, args, below, meth, c, A, D, cI, cB, Q, rfl, hx, hb, hml, hown, hts, hK, hA, hret⟩ := C
  intro hw H locs ls hl hP hD hS
  have h := k hw H locs ls hl hP hD hS
  refine lv_ishl hx hb hd ?_
  rw [← hz]
  exact h
theorem j_ishr (C : JR own cc nL Ts R K J) {x y : Int} (hd : decode cc pc = .ok (.ishr, 1)) {z : Int} (hz : i3 z = i3 x >>> (i3 y &&& 31)) (k : J q Sh ce sl (pc + 1) L (.inl z :: st) g) : J q Sh ce sl pc L (.inl y :: .inl x :: st) g := by
  obtain ⟨p, l, e, s, m, args, below, meth, c, A, D, cI, cB, Q, rfl, hx, hb, hml, hown, hts, hK, hA, hret⟩ := C
  intro hw H locs ls hl hP hD hS
  have h := k hw H locs ls hl hP hD hS
  refine lv_ishr hx hb hd ?_
  rw [← hz]
  exact h
theorem j_dup (C : JR own cc nL Ts R K J) {v : AV} (hd : decode cc pc = .ok (.dup, 1)) (k : J q Sh ce sl (pc + 1) L (v :: v :: st) g) : J q Sh ce sl pc L (v :: st) g := by
  obtain ⟨p, l, e, s, m, args, below, meth, c, A, D, cI, cB, Q, rfl, hx, hb, hml, hown, hts, hK, hA, hret⟩ := C
  intro hw H locs ls hl hP hD hS
  exact lv_dup hx hb hd (a_v_cat q v) (k hw H locs ls hl hP hD hS)
theorem j_pop (C : JR own cc nL Ts R K J) {v : AV} (hd : decode cc pc = .ok (.pop, 1)) (k : J q Sh ce sl (pc + 1) L st g) : J q Sh ce sl pc L (v :: st) g := by
  obtain ⟨p, l, e, s, m, args, below, meth, c, A, D, cI, cB, Q, rfl, hx, hb, hml, hown, hts, hK, hA, hret⟩ := C
  intro hw H locs ls hl hP hD hS
  exact lv_pop hx hb hd (a_v_cat q v) (k hw H locs ls hl hP hD hS)
theorem j_dup2 (C : JR own cc nL Ts R K J) {v u : AV} (hd : decode cc pc = .ok (.dup2, 1)) (k : J q Sh ce sl (pc + 1) L (v :: u :: v :: u :: st) g) : J q Sh ce sl pc L (v :: u :: st) g := by
  obtain ⟨p, l, e, s, m, args, below, meth, c, A, D, cI, cB, Q, rfl, hx, hb, hml, hown, hts, hK, hA, hret⟩ := C
  intro hw H locs ls hl hP hD hS
  exact lv_dup2_11 hx hb hd (a_v_cat q v) (a_v_cat q u) (k hw H locs ls hl hP hD hS)
theorem j_icmp_eq (C : JR own cc nL Ts R K J) {x y : Int} {off : Int} {tgt : Nat} (hd : decode cc pc = .ok (.if_icmp .eq off, 3)) (ht : (pc : Int) + off = (tgt : Int)) (hX : aR x) (hY : aR y) (kt : x = y → J q Sh ce sl tgt L st g) (kf : ¬ (x = y) → J q Sh ce sl (pc + 3) L st g) : J q Sh ce sl pc L (.inl y :: .inl x :: st) g := by
  obtain ⟨p, l, e, s, m, args, below, meth, c, A, D, cI, cB, Q, rfl, hx, hb, hml, hown, hts, hK, hA, hret⟩ := C
  intro hw H locs ls hl hP hD hS
  exact lv_icmp_eq hx hb hd ht (fun h => kt ((i3_eq hX hY).mp h) hw H locs ls hl hP hD hS) (fun h => kf (fun z => h ((i3_eq hX hY).mpr z)) hw H locs ls hl hP hD hS)
theorem j_if_eq (C : JR own cc nL Ts R K J) {x : Int} {off : Int} {tgt : Nat} (hd : decode cc pc = .ok (.ifCond .eq off, 3)) (ht : (pc : Int) + off = (tgt : Int)) (hX : aR x) (kt : x = 0 → J q Sh ce sl tgt L st g) (kf : ¬ (x = 0) → J q Sh ce sl (pc + 3) L st g) : J q Sh ce sl pc L (.inl x :: st) g := by
  obtain ⟨p, l, e, s, m, args, below, meth, c, A, D, cI, cB, Q, rfl, hx, hb, hml, hown, hts, hK, hA, hret⟩ := C
  intro hw H locs ls hl hP hD hS
  exact lv_if_eq hx hb hd ht (fun h => kt ((i3_eq hX aR_0).mp (by rw [i3_0]; exact h)) hw H locs ls hl hP hD hS) (fun h => kf (fun z => h (by have h9 := (i3_eq hX aR_0).mpr z; rw [i3_0] at h9; exact h9)) hw H locs ls hl hP hD hS)
theorem j_icmp_ne (C : JR own cc nL Ts R K J) {x y : Int} {off : Int} {tgt : Nat} (hd : decode cc pc = .ok (.if_icmp .ne off, 3)) (ht : (pc : Int) + off = (tgt : Int)) (hX : aR x) (hY : aR y) (kt : ¬ x = y → J q Sh ce sl tgt L st g) (kf : x = y → J q Sh ce sl (pc + 3) L st g) : J q Sh ce sl pc L (.inl y :: .inl x :: st) g := by
  obtain ⟨p, l, e, s, m, args, below, meth, c, A, D, cI, cB, Q, rfl, hx, hb, hml, hown, hts, hK, hA, hret⟩ := C
  intro hw H locs ls hl hP hD hS
  exact lv_icmp_ne hx hb hd ht (fun h => kt (fun z => h (congrArg i3 z)) hw H locs ls hl hP hD hS) (fun h => kf (by first | exact (i3_eq hX hY).mp (Classical.not_not.mp h) | exact (i3_eq hX hY).mp h) hw H locs ls hl hP hD hS)
theorem j_if_ne (C : JR own cc nL Ts R K J) {x : Int} {off : Int} {tgt : Nat} (hd : decode cc pc = .ok (.ifCond .ne off, 3)) (ht : (pc : Int) + off = (tgt : Int)) (hX : aR x) (kt : ¬ x = 0 → J q Sh ce sl tgt L st g) (kf : x = 0 → J q Sh ce sl (pc + 3) L st g) : J q Sh ce sl pc L (.inl x :: st) g := by
  obtain ⟨p, l, e, s, m, args, below, meth, c, A, D, cI, cB, Q, rfl, hx, hb, hml, hown, hts, hK, hA, hret⟩ := C
  intro hw H locs ls hl hP hD hS
  exact lv_if_ne hx hb hd ht (fun h => kt (fun z => h (by rw [z]; exact i3_0)) hw H locs ls hl hP hD hS) (fun h => kf (by rw [← i3_0] at h; first | exact (i3_eq hX aR_0).mp (Classical.not_not.mp h) | exact (i3_eq hX aR_0).mp h) hw H locs ls hl hP hD hS)
theorem j_icmp_lt (C : JR own cc nL Ts R K J) {x y : Int} {off : Int} {tgt : Nat} (hd : decode cc pc = .ok (.if_icmp .lt off, 3)) (ht : (pc : Int) + off = (tgt : Int)) (hX : aR x) (hY : aR y) (kt : x < y → J q Sh ce sl tgt L st g) (kf : ¬ (x < y) → J q Sh ce sl (pc + 3) L st g) : J q Sh ce sl pc L (.inl y :: .inl x :: st) g := by
  obtain ⟨p, l, e, s, m, args, below, meth, c, A, D, cI, cB, Q, rfl, hx, hb, hml, hown, hts, hK, hA, hret⟩ := C
  intro hw H locs ls hl hP hD hS
  exact lv_icmp_lt hx hb hd ht (fun h => kt ((i3_lt hX hY).mp h) hw H locs ls hl hP hD hS) (fun h => kf (fun z => h ((i3_lt hX hY).mpr z)) hw H locs ls hl hP hD hS)
theorem j_if_lt (C : JR own cc nL Ts R K J) {x : Int} {off : Int} {tgt : Nat} (hd : decode cc pc = .ok (.ifCond .lt off, 3)) (ht : (pc : Int) + off = (tgt : Int)) (hX : aR x) (kt : x < 0 → J q Sh ce sl tgt L st g) (kf : ¬ (x < 0) → J q Sh ce sl (pc + 3) L st g) : J q Sh ce sl pc L (.inl x :: st) g := by
  obtain ⟨p, l, e, s, m, args, below, meth, c, A, D, cI, cB, Q, rfl, hx, hb, hml, hown, hts, hK, hA, hret⟩ := C
  intro hw H locs ls hl hP hD hS
  exact lv_if_lt hx hb hd ht (fun h => kt ((i3_lt hX aR_0).mp (by rw [i3_0]; exact h)) hw H locs ls hl hP hD hS) (fun h => kf (fun z => h (by have h9 := (i3_lt hX aR_0).mpr z; rw [i3_0] at h9; exact h9)) hw H locs ls hl hP hD hS)
theorem j_icmp_ge (C : JR own cc nL Ts R K J) {x y : Int} {off : Int} {tgt : Nat} (hd : decode cc pc = .ok (.if_icmp .ge off, 3)) (ht : (pc : Int) + off = (tgt : Int)) (hX : aR x) (hY : aR y) (kt : y ≤ x → J q Sh ce sl tgt L st g) (kf : ¬ (y ≤ x) → J q Sh ce sl (pc + 3) L st g) : J q Sh ce sl pc L (.inl y :: .inl x :: st) g := by
  obtain ⟨p, l, e, s, m, args, below, meth, c, A, D, cI, cB, Q, rfl, hx, hb, hml, hown, hts, hK, hA, hret⟩ := C
  intro hw H locs ls hl hP hD hS
  exact lv_icmp_ge hx hb hd ht (fun h => kt ((i3_le hY hX).mp h) hw H locs ls hl hP hD hS) (fun h => kf (fun z => h ((i3_le hY hX).mpr z)) hw H locs ls hl hP hD hS)
theorem j_if_ge (C : JR own cc nL Ts R K J) {x : Int} {off : Int} {tgt : Nat} (hd : decode cc pc = .ok (.ifCond .ge off, 3)) (ht : (pc : Int) + off = (tgt : Int)) (hX : aR x) (kt : 0 ≤ x → J q Sh ce sl tgt L st g) (kf : ¬ (0 ≤ x) → J q Sh ce sl (pc + 3) L st g) : J q Sh ce sl pc L (.inl x :: st) g := by
  obtain ⟨p, l, e, s, m, args, below, meth, c, A, D, cI, cB, Q, rfl, hx, hb, hml, hown, hts, hK, hA, hret⟩ := C
  intro hw H locs ls hl hP hD hS
  exact lv_if_ge hx hb hd ht (fun h => kt ((i3_le aR_0 hX).mp (by rw [i3_0]; exact h)) hw H locs ls hl hP hD hS) (fun h => kf (fun z => h (by have h9 := (i3_le aR_0 hX).mpr z; rw [i3_0] at h9; exact h9)) hw H locs ls hl hP hD hS)
theorem j_icmp_gt (C : JR own cc nL Ts R K J) {x y : Int} {off : Int} {tgt : Nat} (hd : decode cc pc = .ok (.if_icmp .gt off, 3)) (ht : (pc : Int) + off = (tgt : Int)) (hX : aR x) (hY : aR y) (kt : y < x → J q Sh ce sl tgt L st g) (kf : ¬ (y < x) → J q Sh ce sl (pc + 3) L st g) : J q Sh ce sl pc L (.inl y :: .inl x :: st) g := by
  obtain ⟨p, l, e, s, m, args, below, meth, c, A, D, cI, cB, Q, rfl, hx, hb, hml, hown, hts, hK, hA, hret⟩ := C
  intro hw H locs ls hl hP hD hS
  exact lv_icmp_gt hx hb hd ht (fun h => kt ((i3_lt hY hX).mp h) hw H locs ls hl hP hD hS) (fun h => kf (fun z => h ((i3_lt hY hX).mpr z)) hw H locs ls hl hP hD hS)
theorem j_if_gt (C : JR own cc nL Ts R K J) {x : Int} {off : Int} {tgt : Nat} (hd : decode cc pc = .ok (.ifCond .gt off, 3)) (ht : (pc : Int) + off = (tgt : Int)) (hX : aR x) (kt : 0 < x → J q Sh ce sl tgt L st g) (kf : ¬ (0 < x) → J q Sh ce sl (pc + 3) L st g) : J q Sh ce sl pc L (.inl x :: st) g := by
  obtain ⟨p, l, e, s, m, args, below, meth, c, A, D, cI, cB, Q, rfl, hx, hb, hml, hown, hts, hK, hA, hret⟩ := C
  intro hw H locs ls hl hP hD hS
  exact lv_if_gt hx hb hd ht (fun h => kt ((i3_lt aR_0 hX).mp (by rw [i3_0]; exact h)) hw H locs ls hl hP hD hS) (fun h => kf (fun z => h (by have h9 := (i3_lt aR_0 hX).mpr z; rw [i3_0] at h9; exact h9)) hw H locs ls hl hP hD hS)
theorem j_icmp_le (C : JR own cc nL Ts R K J) {x y : Int} {off : Int} {tgt : Nat} (hd : decode cc pc = .ok (.if_icmp .le off, 3)) (ht : (pc : Int) + off = (tgt : Int)) (hX : aR x) (hY : aR y) (kt : x ≤ y → J q Sh ce sl tgt L st g) (kf : ¬ (x ≤ y) → J q Sh ce sl (pc + 3) L st g) : J q Sh ce sl pc L (.inl y :: .inl x :: st) g := by
  obtain ⟨p, l, e, s, m, args, below, meth, c, A, D, cI, cB, Q, rfl, hx, hb, hml, hown, hts, hK, hA, hret⟩ := C
  intro hw H locs ls hl hP hD hS
  exact lv_icmp_le hx hb hd ht (fun h => kt ((i3_le hX hY).mp h) hw H locs ls hl hP hD hS) (fun h => kf (fun z => h ((i3_le hX hY).mpr z)) hw H locs ls hl hP hD hS)
theorem j_if_le (C : JR own cc nL Ts R K J) {x : Int} {off : Int} {tgt : Nat} (hd : decode cc pc = .ok (.ifCond .le off, 3)) (ht : (pc : Int) + off = (tgt : Int)) (hX : aR x) (kt : x ≤ 0 → J q Sh ce sl tgt L st g) (kf : ¬ (x ≤ 0) → J q Sh ce sl (pc + 3) L st g) : J q Sh ce sl pc L (.inl x :: st) g := by
  obtain ⟨p, l, e, s, m, args, below, meth, c, A, D, cI, cB, Q, rfl, hx, hb, hml, hown, hts, hK, hA, hret⟩ := C
  intro hw H locs ls hl hP hD hS
  exact lv_if_le hx hb hd ht (fun h => kt ((i3_le hX aR_0).mp (by rw [i3_0]; exact h)) hw H locs ls hl hP hD hS) (fun h => kf (fun z => h (by have h9 := (i3_le hX aR_0).mpr z; rw [i3_0] at h9; exact h9)) hw H locs ls hl hP hD hS)
theorem j_goto (C : JR own cc nL Ts R K J) {off : Int} {tgt : Nat} (hd : decode cc pc = .ok (.goto off, 3)) (ht : (pc : Int) + off = (tgt : Int)) (k : J q Sh ce sl tgt L st g) : J q Sh ce sl pc L st g := by
  obtain ⟨p, l, e, s, m, args, below, meth, c, A, D, cI, cB, Q, rfl, hx, hb, hml, hown, hts, hK, hA, hret⟩ := C
  intro hw H locs ls hl hP hD hS
  exact lv_goto hx hb hd ht (k hw H locs ls hl hP hD hS)
theorem j_tout (C : JR own cc nL Ts R K J) {dflt lo hi x : Int} {offs : Array Int} {len tgt : Nat} (hd : decode cc pc = .ok (.tableswitch dflt lo hi offs, len)) (hX : aR x) (h : x < lo ∨ hi < x) (ht : (pc : Int) + dflt = (tgt : Int)) (k : J q Sh ce sl tgt L st g) : J q Sh ce sl pc L (.inl x :: st) g := by
  obtain ⟨p, l, e, s, m, args, below, meth, c, A, D, cI, cB, Q, rfl, hx, hb, hml, hown, hts, hK, hA, hret⟩ := C
  intro hw H locs ls hl hP hD hS
  exact lv_tableOut hx hb hd (by rw [i3_toInt hX]; exact h) ht (k hw H locs ls hl hP hD hS)
theorem j_tin (C : JR own cc nL Ts R K J) {dflt lo hi x off : Int} {offs : Array Int} {len tgt : Nat} (hd : decode cc pc = .ok (.tableswitch dflt lo hi offs, len)) (hX : aR x) (h1 : ¬ x < lo) (h2 : ¬ hi < x) (ho : offs[(x - lo).toNat]? = some off) (ht : (pc : Int) + off = (tgt : Int)) (k : J q Sh ce sl tgt L st g) : J q Sh ce sl pc L (.inl x :: st) g := by
  obtain ⟨p, l, e, s, m, args, below, meth, c, A, D, cI, cB, Q, rfl, hx, hb, hml, hown, hts, hK, hA, hret⟩ := C
  intro hw H locs ls hl hP hD hS
  exact lv_tableIn hx hb hd (by rw [i3_toInt hX]; exact h1) (by rw [i3_toInt hX]; exact h2) (by rw [i3_toInt hX]; exact ho) ht (k hw H locs ls hl hP hD hS)
theorem j_iret (C : JR own cc nL Ts R K J) {x : Int} (hd : decode cc pc = .ok (.ireturn, 1)) (k : aW g → K (some x) q Sh ce sl g) : J q Sh ce sl pc L [.inl x] g := by
  obtain ⟨p, l, e, s, m, args, below, meth, c, A, D, cI, cB, Q, rfl, hx, hb, hml, hown, hts, hK, hA, hret⟩ := C
  intro hw H locs ls hl hP hD hS
  exact (hret (some x) q Sh ce sl g H locs ls pc (k hw) hw hP hD hS).1 x rfl hd
theorem j_vret (C : JR own cc nL Ts R K J) (hd : decode cc pc = .ok (.return_, 1)) (k : aW g → K none q Sh ce sl g) : J q Sh ce sl pc L [] g := by
  obtain ⟨p, l, e, s, m, args, below, meth, c, A, D, cI, cB, Q, rfl, hx, hb, hml, hown, hts, hK, hA, hret⟩ := C
  intro hw H locs ls hl hP hD hS
  exact (hret none q Sh ce sl g H locs ls pc (k hw) hw hP hD hS).2 rfl hd
end JRows
end
section
/-! ===== the layer J: fields, arrays, calls, contracts ===== -/
/-- a field as a method's words know it: class number ci, slot j, by the pool entry idx -/
def aFL (Ts : List Cond) (own : String) (idx ci j : Nat) : Prop := ∃ (C : String) (T : u_T) (N : Nat), vwCl[ci]? = some (C, T, N) ∧ (∀ w ∈ u_ws C T N, w ∈ Ts) ∧ j < N ∧ Cond.fieldLink own idx (T j).1 (T j).2.1 (T j).2.2.1 ∈ Ts
/-- and as it is written -/
def aFP (Ts : List Cond) (own : String) (idx ci j : Nat) (bo : Bool) : Prop := ∃ (C : String) (T : u_T) (N : Nat) (ty : Nat → FieldType), vwCl[ci]? = some (C, T, N) ∧ (∀ w ∈ u_ws C T N, w ∈ Ts) ∧ (∀ k, k < N → parseFieldDescriptor (T k).2.2.1 = some (ty k)) ∧ (∀ a, a < N → ∀ b, b < N → a ≠ b → (T a).2.1 ≠ (T b).2.1) ∧ j < N ∧ Cond.fieldLink own idx (T j).1 (T j).2.1 (T j).2.2.1 ∈ Ts ∧ (T j).2.2.2 = false ∧ ty j = (if bo then .boolean else .int)
theorem a_nar {bo : Bool} {x : Int} (h : bo = true → x = 0 ∨ x = 1) : narrow (if bo then .boolean else .int) (.int (i3 x)) = .int (i3 x) ∧ fits (if bo then .boolean else .int) (.int (i3 x)) = true := by
  cases bo with
  | false => exact ⟨rfl, rfl⟩
  | true =>
    rcases h rfl with rfl | rfl
    · exact ⟨by decide +kernel, by decide +kernel⟩
    · exact ⟨by decide +kernel, by decide +kernel⟩
section JHeap
variable {own : String} {cc : ByteArray} {nL : Nat} {Ts : List Cond} {R : Room} {K : KT} {J : JT} {q : Nat → Nat} {Sh : List AC} {ce sl pc : Nat} {L : AL} {st : List AV} {g : AG}
theorem j_getI (C : JR own cc nL Ts R K J) {idx ci j k : Nat} {fs : List AF} (F : aFL Ts own idx ci j) (hs : Sh[k]? = some (.inl (ci, fs))) (hf : fs[j]? = some none) (hd : decode cc pc = .ok (.getfield idx, 3)) (kk : J q Sh ce sl (pc + 3) L (.inl (g k j) :: st) g) : J q Sh ce sl pc L (.inr k :: st) g := by
  obtain ⟨p, l, e, s, m, args, below, meth, c, A, D, cI, cB, Q, rfl, hx, hb, hml, hown, hts, hK, hA, hret⟩ := C
  intro hw H locs ls hl hP hD hS
  obtain ⟨Cn, T, N, f1, f2, f3, f4⟩ := F
  refine va_get (D := D) (cl := vwCl) (v := .int (i3 (g k j))) hx hb hts f2 hown hK hP k (a_w_at hs) f1 j f3 (hts _ f4) (fun _ h => h) ?_ hd (kk hw H locs ls hl hP hD hS)
  show (fs.mapIdx (fun j f => a_f q g k j f))[j]? = _
  rw [List.getElem?_mapIdx, hf]
  rfl
theorem j_getR (C : JR own cc nL Ts R K J) {idx ci j k k' : Nat} {fs : List AF} (F : aFL Ts own idx ci j) (hs : Sh[k]? = some (.inl (ci, fs))) (hf : fs[j]? = some (some (some k'))) (hd : decode cc pc = .ok (.getfield idx, 3)) (kk : J q Sh ce sl (pc + 3) L (.inr k' :: st) g) : J q Sh ce sl pc L (.inr k :: st) g := by
  obtain ⟨p, l, e, s, m, args, below, meth, c, A, D, cI, cB, Q, rfl, hx, hb, hml, hown, hts, hK, hA, hret⟩ := C
  intro hw H locs ls hl hP hD hS
  obtain ⟨Cn, T, N, f1, f2, f3, f4⟩ := F
  refine va_get (D := D) (cl := vwCl) (v := .ref (q k')) hx hb hts f2 hown hK hP k (a_w_at hs) f1 j f3 (hts _ f4) (fun _ h => h) ?_ hd (kk hw H locs ls hl hP hD hS)
  show (fs.mapIdx (fun j f => a_f q g k j f))[j]? = _
  rw [List.getElem?_mapIdx, hf]
  rfl
theorem j_putI (C : JR own cc nL Ts R K J) {idx ci j k : Nat} {bo : Bool} {fs : List AF} {x : Int} (F : aFP Ts own idx ci j bo) (hs : Sh[k]? = some (.inl (ci, fs))) (hf : fs[j]? = some none) (hX : aR x) (hB : bo = true → x = 0 ∨ x = 1) (hd : decode cc pc = .ok (.putfield idx, 3)) (kk : J q Sh ce sl (pc + 3) L st (aset g k j x)) : J q Sh ce sl pc L (.inl x :: .inr k :: st) g := by
  obtain ⟨p, l, e, s, m, args, below, meth, c, A, D, cI, cB, Q, rfl, hx, hb, hml, hown, hts, hK, hA, hret⟩ := C
  intro hw H locs ls hl hP hD hS
  obtain ⟨Cn, T, N, ty, f1, f2, f3, f4, f5, f6, f7, f8⟩ := F
  obtain ⟨n1, n2⟩ := a_nar (bo := bo) (x := x) hB
  have hj : j < fs.length := (List.getElem?_eq_some_iff.mp hf).1
  refine va_put (D := D) (cl := vwCl) (v := .int (i3 x)) (ty := if bo then .boolean else .int) hx hb hts f2 ty f3 f4 hown hK hP hD hS k (a_w_at hs) f1 j f5 (hts _ f6) (fun _ h => h) f7 (by rw [f3 j f5, f8]) n1 n2 (by simpa using hj) hd (fun H1 locs1 hP1 hD1 hS1 => ?_)
  have e9 := a_w_put (cI := cI) (cB := cB) (q := q) (g := g) (v := x) (j := j) hs
  rw [a_c_obj hf] at e9
  rw [e9] at hP1 hD1
  exact kk (aset_W hw hX) H1 locs1 ls hl hP1 hD1 hS1
theorem j_iaload (C : JR own cc nL Ts R K J) {k n : Nat} {i : Int} (hs : Sh[k]? = some (.inr (false, n))) (hn : n ≤ 2147483647) (hd : decode cc pc = .ok (.iaload, 1)) (h0 : 0 ≤ i) (h1 : i < n) (kk : J q Sh ce sl (pc + 1) L (.inl (g k i.toNat) :: st) g) : J q Sh ce sl pc L (.inl i :: .inr k :: st) g := by
  obtain ⟨p, l, e, s, m, args, below, meth, c, A, D, cI, cB, Q, rfl, hx, hb, hml, hown, hts, hK, hA, hret⟩ := C
  intro hw H locs ls hl hP hD hS
  refine va_iald (D := D) (cl := vwCl) (f := fun j => i3 (g k j)) hx hb hK hP k 0 (a_w_at hs) rfl (i3_in h0 h1 hn) hd ?_
  rw [i3_clamp h0 h1 hn]
  exact kk hw H locs ls hl hP hD hS
theorem j_baload (C : JR own cc nL Ts R K J) {k n : Nat} {i : Int} (hs : Sh[k]? = some (.inr (true, n))) (hn : n ≤ 2147483647) (hd : decode cc pc = .ok (.baload, 1)) (h0 : 0 ≤ i) (h1 : i < n) (kk : J q Sh ce sl (pc + 1) L (.inl (g k i.toNat) :: st) g) : J q Sh ce sl pc L (.inl i :: .inr k :: st) g := by
  obtain ⟨p, l, e, s, m, args, below, meth, c, A, D, cI, cB, Q, rfl, hx, hb, hml, hown, hts, hK, hA, hret⟩ := C
  intro hw H locs ls hl hP hD hS
  refine va_zald (D := D) (cl := vwCl) (f := fun j => i3 (g k j)) hx hb hK hP k 1 (a_w_at hs) rfl (i3_in h0 h1 hn) hd ?_
  rw [i3_clamp h0 h1 hn]
  exact kk hw H locs ls hl hP hD hS
theorem j_iastore (C : JR own cc nL Ts R K J) {k n : Nat} {i x : Int} (hs : Sh[k]? = some (.inr (false, n))) (hn : n ≤ 2147483647) (hd : decode cc pc = .ok (.iastore, 1)) (h0 : 0 ≤ i) (h1 : i < n) (hX : aR x) (kk : J q Sh ce sl (pc + 1) L st (aset g k i.toNat x)) : J q Sh ce sl pc L (.inl x :: .inl i :: .inr k :: st) g := by
  obtain ⟨p, l, e, s, m, args, below, meth, c, A, D, cI, cB, Q, rfl, hx, hb, hml, hown, hts, hK, hA, hret⟩ := C
  intro hw H locs ls hl hP hD hS
  refine va_iast (D := D) (cl := vwCl) (f := fun j => i3 (g k j)) hx hb hK hP hD hS k 0 (a_w_at hs) rfl (i3_in h0 h1 hn) hd (fun H1 locs1 hP1 hD1 hS1 => ?_)
  rw [i3_clamp h0 h1 hn] at hP1 hD1
  have e9 := a_w_put (cI := cI) (cB := cB) (q := q) (g := g) (v := x) (j := i.toNat) hs
  rw [a_c_arr] at e9
  have e9 : (a_w cI cB q g Sh).set k (q k, .inl (cI, n, .inl (upd (fun j => i3 (g k j)) i.toNat (i3 x)))) = _ := e9
  have hP1 : va_P D vwCl (a_w cI cB q (aset g k i.toNat x) Sh) H1 := by rw [← e9]; exact hP1
  have hD1 : va_D A (a_w cI cB q (aset g k i.toNat x) Sh) := by rw [← e9]; exact hD1
  exact kk (aset_W hw hX) H1 locs1 ls hl hP1 hD1 hS1
theorem j_bastore (C : JR own cc nL Ts R K J) {k n : Nat} {i x : Int} (hs : Sh[k]? = some (.inr (true, n))) (hn : n ≤ 2147483647) (hd : decode cc pc = .ok (.bastore, 1)) (h0 : 0 ≤ i) (h1 : i < n) (hB : x = 0 ∨ x = 1) (kk : J q Sh ce sl (pc + 1) L st (aset g k i.toNat x)) : J q Sh ce sl pc L (.inl x :: .inl i :: .inr k :: st) g := by
  obtain ⟨p, l, e, s, m, args, below, meth, c, A, D, cI, cB, Q, rfl, hx, hb, hml, hown, hts, hK, hA, hret⟩ := C
  intro hw H locs ls hl hP hD hS
  refine va_zast (D := D) (cl := vwCl) (f := fun j => i3 (g k j)) hx hb hK hP hD hS k 1 (a_w_at hs) rfl (i3_in h0 h1 hn) hd (fun H1 locs1 hP1 hD1 hS1 => ?_)
  have e8 : vp_nar .boolean (i3 x) = i3 x := by rcases hB with rfl | rfl <;> decide +kernel
  rw [i3_clamp h0 h1 hn, e8] at hP1 hD1
  have e9 := a_w_put (cI := cI) (cB := cB) (q := q) (g := g) (v := x) (j := i.toNat) hs
  rw [a_c_arr] at e9
  have e9 : (a_w cI cB q g Sh).set k (q k, .inl (cB, n, .inl (upd (fun j => i3 (g k j)) i.toNat (i3 x)))) = _ := e9
  have hP1 : va_P D vwCl (a_w cI cB q (aset g k i.toNat x) Sh) H1 := by rw [← e9]; exact hP1
  have hD1 : va_D A (a_w cI cB q (aset g k i.toNat x) Sh) := by rw [← e9]; exact hD1
  exact kk (aset_W hw ⟨by omega, by omega⟩) H1 locs1 ls hl hP1 hD1 hS1
theorem j_alen (C : JR own cc nL Ts R K J) {k n : Nat} {b : Bool} (hs : Sh[k]? = some (.inr (b, n))) (hd : decode cc pc = .ok (.arraylength, 1)) (kk : J q Sh ce sl (pc + 1) L (.inl (n : Int) :: st) g) : J q Sh ce sl pc L (.inr k :: st) g := by
  obtain ⟨p, l, e, s, m, args, below, meth, c, A, D, cI, cB, Q, rfl, hx, hb, hml, hown, hts, hK, hA, hret⟩ := C
  intro hw H locs ls hl hP hD hS
  have e9 : Int32.ofNat n = i3 (n : Int) := (Int32.ofInt_eq_ofNat).symm
  cases b with
  | false => exact va_alen (D := D) (cl := vwCl) (x := (n, .inl (fun j => i3 (g k j)))) hx hb hK hP k 0 (a_w_at hs) rfl e9 hd (kk hw H locs ls hl hP hD hS)
  | true => exact va_alen (D := D) (cl := vwCl) (x := (n, .inl (fun j => i3 (g k j)))) hx hb hK hP k 1 (a_w_at hs) rfl e9 hd (kk hw H locs ls hl hP hD hS)
/-- the words of a Math method -/
def aMw (Ts : List Cond) (own : String) (idx : Nat) (y : MethodName) (code : ByteArray) (n : Nat) : Prop := Cond.methodLink own idx y ∈ Ts ∧ Cond.static y ∈ Ts ∧ Cond.initialized "java/lang/Math" ∈ Ts ∧ Cond.code y code n (some .int) ∈ Ts
theorem a_cats (q : Nat → Nat) : ∀ (st : List AV), ((st.map (a_v q)).map fun v => v.category).sum = st.length
  | [] => rfl
  | v :: st => by
    rw [List.map_cons, List.map_cons, List.sum_cons, a_v_cat, a_cats q st, List.length_cons]
    omega
theorem a_L_size {q : Nat → Nat} {ls : Array Slot} {L : AL} (h : a_L q ls L) : ls.size = L.length := by
  obtain ⟨l, h1, -⟩ := h
  exact h1.1
theorem j_mabs (C : JR own cc nL Ts R K J) {idx : Nat} {x : Int} (M : aMw Ts own idx Lib.Math.abs.name Lib.Math.abs.code 1) (hL : L.length = nL) (hr : 1 ≤ R.frames ∧ st.length + 13 ≤ R.locals ∧ ce ≤ R.cells ∧ sl ≤ R.slots) (hd : decode cc pc = .ok (.invokestatic idx, 3)) (hX : aR x) (h9 : x ≠ -2147483648) (kk : J q Sh ce sl (pc + 3) L (.inl (x.natAbs : Int) :: st) g) : J q Sh ce sl pc L (.inl x :: st) g := by
  obtain ⟨p, l, e, s, m, args, below, meth, c, A, D, cI, cB, Q, rfl, hx, hb, hml, hown, hts, hK, hA, hret⟩ := C
  intro hw H locs ls hl hP hD hS
  refine va_mabs hx hb (by rw [hml, a_L_size hl, hL]) hown (hts _ M.1) (hts _ M.2.1) (hts _ M.2.2.1) (hts _ M.2.2.2) hr.1 (by rw [a_cats]; exact hr.2.1) hr.2.2.1 hr.2.2.2 hd ?_
  have e9 : (if 0 ≤ i3 x then i3 x else 0 - i3 x) = i3 (x.natAbs : Int) := by
    have e8 : (0 ≤ i3 x) ↔ 0 ≤ x := by rw [← i3_0]; exact i3_le aR_0 hX
    by_cases h : 0 ≤ x
    · rw [if_pos (e8.mpr h)]
      congr 1
      omega
    · rw [if_neg (fun z => h (e8.mp z)), ← i3_0]
      show Int32.ofInt 0 - Int32.ofInt x = Int32.ofInt _
      rw [← Int32.ofInt_sub]
      congr 1
      omega
  rw [e9]
  exact kk hw H locs ls hl hP hD hS
theorem j_mmax (C : JR own cc nL Ts R K J) {idx : Nat} {x y : Int} (M : aMw Ts own idx Lib.Math.max.name Lib.Math.max.code 2) (hL : L.length = nL) (hr : 1 ≤ R.frames ∧ st.length + 13 ≤ R.locals ∧ ce ≤ R.cells ∧ sl ≤ R.slots) (hd : decode cc pc = .ok (.invokestatic idx, 3)) (hX : aR x) (hY : aR y) (kk : J q Sh ce sl (pc + 3) L (.inl (max x y) :: st) g) : J q Sh ce sl pc L (.inl y :: .inl x :: st) g := by
  obtain ⟨p, l, e, s, m, args, below, meth, c, A, D, cI, cB, Q, rfl, hx, hb, hml, hown, hts, hK, hA, hret⟩ := C
  intro hw H locs ls hl hP hD hS
  refine va_mmax hx hb (by rw [hml, a_L_size hl, hL]) hown (hts _ M.1) (hts _ M.2.1) (hts _ M.2.2.1) (hts _ M.2.2.2) hr.1 (by rw [a_cats]; exact hr.2.1) hr.2.2.1 hr.2.2.2 hd ?_
  have e9 : (if i3 x < i3 y then i3 y else i3 x) = i3 (max x y) := by
    by_cases h : x < y
    · rw [if_pos ((i3_lt hX hY).mpr h)]
      congr 1
      omega
    · rw [if_neg (fun z => h ((i3_lt hX hY).mp z))]
      congr 1
      omega
  rw [e9]
  exact kk hw H locs ls hl hP hD hS
theorem j_mmin (C : JR own cc nL Ts R K J) {idx : Nat} {x y : Int} (M : aMw Ts own idx Lib.Math.min.name Lib.Math.min.code 2) (hL : L.length = nL) (hr : 1 ≤ R.frames ∧ st.length + 13 ≤ R.locals ∧ ce ≤ R.cells ∧ sl ≤ R.slots) (hd : decode cc pc = .ok (.invokestatic idx, 3)) (hX : aR x) (hY : aR y) (kk : J q Sh ce sl (pc + 3) L (.inl (min x y) :: st) g) : J q Sh ce sl pc L (.inl y :: .inl x :: st) g := by
  obtain ⟨p, l, e, s, m, args, below, meth, c, A, D, cI, cB, Q, rfl, hx, hb, hml, hown, hts, hK, hA, hret⟩ := C
  intro hw H locs ls hl hP hD hS
  refine va_mmin hx hb (by rw [hml, a_L_size hl, hL]) hown (hts _ M.1) (hts _ M.2.1) (hts _ M.2.2.1) (hts _ M.2.2.2) hr.1 (by rw [a_cats]; exact hr.2.1) hr.2.2.1 hr.2.2.2 hd ?_
  have e9 : (if i3 y < i3 x then i3 y else i3 x) = i3 (min x y) := by
    by_cases h : y < x
    · rw [if_pos ((i3_lt hY hX).mpr h)]
      congr 1
      omega
    · rw [if_neg (fun z => h ((i3_lt hY hX).mp z))]
      congr 1
      omega
  rw [e9]
  exact kk hw H locs ls hl hP hD hS
end JHeap
/-! contracts: a method of which the world keeps its shape -/
abbrev a_P (D : va_G) (cI cB : ClassId) (q : Nat → Nat) (Sh : List AC) (g : AG) (sz : Nat) (U : State) : Prop := U.heap.size = sz ∧ va_P D vwCl (a_w cI cB q g Sh) U.heap ∧ va_K D vwCl (a_t cI cB) U ∧ va_D (fun _ => True) (a_w cI cB q g Sh)
abbrev a_B (D : va_G) (cI cB : ClassId) (q : Nat → Nat) (Sh : List AC) (A : Nat → Prop) (g : AG) (t : State) : Prop := va_P D vwCl (a_w cI cB q g Sh) t.heap ∧ va_K D vwCl (a_t cI cB) t ∧ va_D A (a_w cI cB q g Sh)
def MetI (y : MethodName) (ws : List Cond) (rm : Room) (Sh : List AC) (as : List AV) (g : AG) (K : Int → AG → Prop) : Prop := ∀ (l : Launch) (D : va_G) (cI cB : ClassId) (q : Nat → Nat) (sz : Nat), aW g → Met l y ws rm (va_Pc (as.map (a_v q)) (a_P D cI cB q Sh g sz)) (va_Qi (fun (r : Int32) (g' : AG) => aW g' ∧ ∃ x, r = i3 x ∧ K x g') (a_B D cI cB q Sh (va_A (a_w cI cB q g Sh) sz)) (va_A (a_w cI cB q g Sh) sz)) 0 0 (va_A (a_w cI cB q g Sh) sz)
def MetV (y : MethodName) (ws : List Cond) (rm : Room) (Sh : List AC) (as : List AV) (g : AG) (K : AG → Prop) : Prop := ∀ (l : Launch) (D : va_G) (cI cB : ClassId) (q : Nat → Nat) (sz : Nat), aW g → Met l y ws rm (va_Pc (as.map (a_v q)) (a_P D cI cB q Sh g sz)) (va_Qv (fun (g' : AG) => aW g' ∧ K g') (a_B D cI cB q Sh (va_A (a_w cI cB q g Sh) sz)) (va_A (a_w cI cB q g Sh) sz)) 0 0 (va_A (a_w cI cB q g Sh) sz)
/-- the end of such a method -/
def kI (bo : Bool) (q0 : Nat → Nat) (Sh0 : List AC) (K : Int → AG → Prop) : KT := fun r q Sh ce sl g => q = q0 ∧ Sh = Sh0 ∧ ce = 0 ∧ sl = 0 ∧ ∃ x, r = some x ∧ (bo = true → x = 0 ∨ x = 1) ∧ K x g
def kV (q0 : Nat → Nat) (Sh0 : List AC) (K : AG → Prop) : KT := fun r q Sh ce sl g => q = q0 ∧ Sh = Sh0 ∧ ce = 0 ∧ sl = 0 ∧ r = none ∧ K g
theorem a_w_len (cI cB : ClassId) (q : Nat → Nat) (g : AG) (Sh : List AC) : (a_w cI cB q g Sh).length = Sh.length := by simp [a_w]
theorem a_c_1 (cI cB : ClassId) (q : Nat → Nat) (g : AG) (k : Nat) (c : AC) : (a_c cI cB q g k c).1 = q k := by cases c <;> rfl
theorem va_A_gg (cI cB : ClassId) (q : Nat → Nat) (g g' : AG) (Sh : List AC) (sz a : Nat) : va_A (a_w cI cB q g Sh) sz a → va_A (a_w cI cB q g' Sh) sz a := by
  rintro (⟨k, e, h⟩ | h)
  · left
    unfold a_w at h ⊢
    rw [List.getElem?_mapIdx] at h
    cases hc : Sh[k]? with
    | none => rw [hc] at h; cases h
    | some c0 =>
      rw [hc] at h
      have h1 : a_c cI cB q g k c0 = (a, e) := Option.some.inj h
      refine ⟨k, (a_c cI cB q g' k c0).2, ?_⟩
      rw [List.getElem?_mapIdx, hc]
      show some (a_c cI cB q g' k c0) = _
      have h2 : (a_c cI cB q g' k c0).1 = a := by rw [a_c_1, ← a_c_1 cI cB q g k c0, h1]
      rw [← h2]
  · exact Or.inr h
theorem a_entry (q : Nat → Nat) : ∀ (as : List AV) (n : Nat), lv_args n (as.map (a_v q)) = as.mapIdx (fun i v => (n + i, a_v q v))
  | [], n => rfl
  | v :: as, n => by
    rw [List.map_cons, List.mapIdx_cons]
    have e9 : lv_args n (a_v q v :: as.map (a_v q)) = (n, a_v q v) :: lv_args (n + 1) (as.map (a_v q)) := by
      cases v <;> rfl
    rw [e9, a_entry q as (n + 1)]
    congr 1
    congr 1
    funext i v
    congr 1
    omega
theorem a_slots (q : Nat → Nat) : ∀ (as : List AV), (lg_sl (as.map (a_v q))).length = as.length
  | [] => rfl
  | v :: as => by
    have e9 : lg_sl (a_v q v :: as.map (a_v q)) = .val (a_v q v) :: lg_sl (as.map (a_v q)) := by
      cases v <;> rfl
    rw [List.map_cons, e9, List.length_cons, List.length_cons, a_slots q as]
abbrev a_L0 (as : List AV) (nL : Nat) : AL := as.map some ++ List.replicate (nL - as.length) none
theorem a_L_entry (q : Nat → Nat) (as : List AV) {nL : Nat} (h : as.length ≤ nL) : a_L q ((lg_sl (as.map (a_v q)) ++ List.replicate (nL - (lg_sl (as.map (a_v q))).length) Slot.unset).toArray) (a_L0 as nL) := by
  have h1 := lv_entry (as.map (a_v q)) (n := nL) (by rw [a_slots]; exact h)
  have e9 : (a_L0 as nL).length = nL := by simp [a_L0]; omega
  refine ⟨_, by rw [e9]; exact h1, fun i v hi => ?_⟩
  rw [a_entry]
  have h2 : as[i]? = some v := by
    by_cases hl : i < as.length
    · rw [List.getElem?_append_left (by simpa using hl), List.getElem?_map] at hi
      cases hc : as[i]? with
      | none => rw [hc] at hi; cases hi
      | some z => rw [hc] at hi; cases hi; rfl
    · rw [List.getElem?_append_right (by simpa using hl)] at hi
      have := List.mem_of_getElem? hi
      rw [List.mem_replicate] at this
      cases this.2
  apply List.mem_of_getElem? (i := i)
  rw [List.getElem?_mapIdx, h2]
  simp
set_option maxHeartbeats 4000000 in
theorem metI_of {y : MethodName} {ws ws' : List Cond} {rm : Room} {Sh : List AC} {as : List AV} {g : AG} {K : Int → AG → Prop} {cc : ByteArray} {nL : Nat} (bo : Bool) (hy : plainName y.cls = true) (hw : ws = Cond.code y cc nL (some (if bo then .boolean else .int)) :: ws') (hn : as.length ≤ nL)
    (body : ∀ (q : Nat → Nat) (J : JT), JR y.cls cc nL ws rm (kI bo q Sh K) J → J q Sh 0 0 0 (a_L0 as nL) [] g) : MetI y ws rm Sh as g K := by
  intro l D cI cB q sz hwf
  refine Met.ofW (cc := cc) (maxL := nL) (ret := some (if bo then .boolean else .int)) hy hw ?_
  intro p e s m args below meth c s₁ B hml hv
  obtain ⟨hv0, hsz, hP, hK, hD0⟩ := hv
  subst hv0
  subst hsz
  have hts := atoms_spec (ws := ws) B.pre
  have hown : s.vm.findClass y.cls = some m.cls := findClass_of_methodNamed B.named
  have hlocks := B.notSynchronized
  have hD := hD0.self (sz := s.heap.size)
  have C : JR y.cls cc nL ws rm (kI bo q Sh K) (a_J p l e rm s m (as.map (a_v q)).toArray below meth c (va_A (a_w cI cB q g Sh) s.heap.size) D cI cB (MQ below (va_Qi (fun (r : Int32) (g' : AG) => aW g' ∧ ∃ x, r = i3 x ∧ K x g') (a_B D cI cB q Sh (va_A (a_w cI cB q g Sh) s.heap.size)) (va_A (a_w cI cB q g Sh) s.heap.size)) (as.map (a_v q)).toArray s 0 0 (va_A (a_w cI cB q g Sh) s.heap.size))) := by
    refine ⟨p, l, e, s, m, (as.map (a_v q)).toArray, below, meth, c, va_A (a_w cI cB q g Sh) s.heap.size, D, cI, cB, _, rfl, B.exec, B.bytes, hml, hown, hts, hK, fun q h => Or.inr h, ?_⟩
    intro r q2 Sh2 ce sl g2 H locs ls pc hk hw2 hP2 hD2 hS2
    obtain ⟨rfl, rfl, rfl, rfl, x, rfl, hbo, hkx⟩ := hk
    refine ⟨fun x2 h2 hd => ?_, fun h2 => by cases h2⟩
    cases h2
    exact W.zret (v := i3 x) B.exec B.bytes B.returns (a_nar hbo).1 (fun t ht hW => ⟨⟨i3 x, g2, rfl, ⟨hw2, x, rfl, hkx⟩, by rw [ht]; exact hP2, va_K.moved hW.alike hK, hD2⟩, hS2.F ht⟩) hS2.2.2 hd
  have h1 := body q _ C hwf s.heap [] _ (a_L_entry q as hn) hP hD va_S.rf
  rw [lg_entry_eq]
  exact h1
set_option maxHeartbeats 4000000 in
theorem metV_of {y : MethodName} {ws ws' : List Cond} {rm : Room} {Sh : List AC} {as : List AV} {g : AG} {K : AG → Prop} {cc : ByteArray} {nL : Nat} (hy : plainName y.cls = true) (hw : ws = Cond.code y cc nL none :: ws') (hn : as.length ≤ nL)
    (body : ∀ (q : Nat → Nat) (J : JT), JR y.cls cc nL ws rm (kV q Sh K) J → J q Sh 0 0 0 (a_L0 as nL) [] g) : MetV y ws rm Sh as g K := by
  intro l D cI cB q sz hwf
  refine Met.ofW (cc := cc) (maxL := nL) (ret := none) hy hw ?_
  intro p e s m args below meth c s₁ B hml hv
  obtain ⟨hv0, hsz, hP, hK, hD0⟩ := hv
  subst hv0
  subst hsz
  have hts := atoms_spec (ws := ws) B.pre
  have hown : s.vm.findClass y.cls = some m.cls := findClass_of_methodNamed B.named
  have hlocks := B.notSynchronized
  have hD := hD0.self (sz := s.heap.size)
  have C : JR y.cls cc nL ws rm (kV q Sh K) (a_J p l e rm s m (as.map (a_v q)).toArray below meth c (va_A (a_w cI cB q g Sh) s.heap.size) D cI cB (MQ below (va_Qv (fun (g' : AG) => aW g' ∧ K g') (a_B D cI cB q Sh (va_A (a_w cI cB q g Sh) s.heap.size)) (va_A (a_w cI cB q g Sh) s.heap.size)) (as.map (a_v q)).toArray s 0 0 (va_A (a_w cI cB q g Sh) s.heap.size))) := by
    refine ⟨p, l, e, s, m, (as.map (a_v q)).toArray, below, meth, c, va_A (a_w cI cB q g Sh) s.heap.size, D, cI, cB, _, rfl, B.exec, B.bytes, hml, hown, hts, hK, fun q h => Or.inr h, ?_⟩
    intro r q2 Sh2 ce sl g2 H locs ls pc hk hw2 hP2 hD2 hS2
    obtain ⟨rfl, rfl, rfl, rfl, rfl, hkx⟩ := hk
    refine ⟨fun x2 h2 => (by cases h2), fun h2 hd => ?_⟩
    exact W.vret B.exec B.bytes B.returns (fun t ht hW => ⟨⟨g2, rfl, ⟨hw2, hkx⟩, by rw [ht]; exact hP2, va_K.moved hW.alike hK, hD2⟩, hS2.F ht⟩) hS2.2.2 hd
  have h1 := body q _ C hwf s.heap [] _ (a_L_entry q as hn) hP hD va_S.rf
  rw [lg_entry_eq]
  exact h1
/-! calls -/
def aCV (Ts : List Cond) (R : Room) (own : String) (idx : Nat) (ci : Nat) (y : MethodName) (ws : List Cond) (rm : Room) (n : Nat) : Prop := ∃ (T : u_T) (N : Nat) (bytes : ByteArray) (maxL : Nat) (ret : Option FieldType) (ws' : List Cond), vwCl[ci]? = some (y.cls, T, N) ∧ GoodIn Ts (wsV own idx y.cls y ws) ∧ ws = Cond.code y bytes maxL ret :: ws' ∧ rm.cells = 0 ∧ rm.slots = 0 ∧ (y.cls ≠ "java/lang/invoke/MethodHandle" ∧ y.cls ≠ "java/lang/invoke/VarHandle" ∧ (parseMethodDescriptor y.desc).map (fun d => d.parameters.length) = some n) ∧ (rm.frames + 1 ≤ R.frames ∧ 8 + (maxL + 11) + rm.locals ≤ R.locals)
def aCS (Ts : List Cond) (R : Room) (own : String) (idx : Nat) (y : MethodName) (ws : List Cond) (rm : Room) (n : Nat) : Prop := ∃ (bytes : ByteArray) (maxL : Nat) (ret : Option FieldType) (ws' : List Cond), GoodIn Ts (va_wsS own idx y ws) ∧ ws = Cond.code y bytes maxL ret :: ws' ∧ rm.cells = 0 ∧ rm.slots = 0 ∧ (y.cls ≠ "java/lang/invoke/MethodHandle" ∧ y.cls ≠ "java/lang/invoke/VarHandle" ∧ (parseMethodDescriptor y.desc).map (fun d => d.parameters.length) = some n) ∧ (rm.frames + 1 ≤ R.frames ∧ 8 + (maxL + 11) + rm.locals ≤ R.locals)
theorem a_blind {D : va_G} {cI cB : ClassId} {q : Nat → Nat} {Sh : List AC} {g : AG} {sz : Nat} (av : List Value) : FrameBlind (va_Pc av (a_P D cI cB q Sh g sz)) := fun a U gg mk z => by
  obtain ⟨q0, q1, qP, qK, qD⟩ := z
  exact ⟨q0, q1, qP, va_K.moved (u := U) (U := U.calling gg mk a) (Vm.Alike.refl U.vm) qK, qD⟩
theorem a_free {A : Nat → Prop} {cI cB : ClassId} {q : Nat → Nat} {g : AG} {Sh : List AC} {H0 H : Heap} {locs : List Loc} (hD : va_D A (a_w cI cB q g Sh)) (hS : va_S A H0 H locs) (hA : ∀ a, H0.size ≤ a → A a) : ∀ a, va_A (a_w cI cB q g Sh) H.size a → A a := by
  rintro a (⟨k, e, h⟩ | h)
  · exact hD.2 k _ h
  · exact hA a (Nat.le_trans hS.1 h)
section JCalls
variable {own : String} {cc : ByteArray} {nL : Nat} {Ts : List Cond} {R : Room} {K : KT} {J : JT} {q : Nat → Nat} {Sh : List AC} {ce sl pc : Nat} {L : AL} {st : List AV} {g : AG}
variable {idx ci n k0 : Nat} {y : MethodName} {ws : List Cond} {rm : Room} {as : List AV} {fs : List AF}
set_option maxHeartbeats 4000000 in
theorem j_callVi {K0 : Int → AG → Prop} (C : JR own cc nL Ts R K J) (B : aCV Ts R own idx ci y ws rm n) (hs : Sh[k0]? = some (.inl (ci, fs))) (hn : as.length = n) (hL : L.length = nL) (hst : st.length ≤ 8) (hr : ce ≤ R.cells ∧ sl ≤ R.slots) (hd : decode cc pc = .ok (.invokevirtual idx, 3)) (hM : MetI y ws rm Sh (.inr k0 :: as) g K0) (kk : (∀ (x : Int) (g' : AG), K0 x g' → J q Sh ce sl (pc + 3) L (.inl x :: st) g')) : J q Sh ce sl pc L (as.reverse ++ .inr k0 :: st) g := by
  obtain ⟨p, l, e, s, m, args, below, meth, c, A, D, cI, cB, Q, rfl, hx, hb, hml, hown, hts, hK, hA, hret⟩ := C
  intro hw H locs ls hl hP hD hS
  obtain ⟨T, N, bytes, maxL, ret, ws', b0, b1, b2, b3, b4, b5, b6⟩ := B
  have hF := a_free hD hS hA
  have hrun := va_runV (As := as.map (a_v q)) (rest := st.map (a_v q)) (g := F0 m pc ls ((as.reverse ++ Sum.inr k0 :: st).map (a_v q))) (b := q k0) (H := H) (locs := locs) (e := e) (below := below) (meth := meth) (cells := ce) (slots := sl) ⟨hx, hb, hml, hown, hts⟩ (hM l D cI cB q H.size hw) (cwV n hts b1 b2 b3 b4 ⟨rfl, b5⟩ b6) ⟨a_blind _, va_recv hK hP (q0 := k0) b0 (a_w_at hs), fun U hU hW => ⟨rfl, by rw [hU], by rw [hU]; exact hP, va_K.moved hW.alike hK, hD.weaken (fun _ _ _ _ => trivial)⟩⟩ rfl (by rw [List.length_map]; exact hn) ((a_L_size hl).trans hL) (by simp [a_v]) (lv_room (by rw [a_cats]; exact hst)) hd hr
  refine va_calli hrun hS (fun a _ h => hF a h) hF (fun r g' t H1 locs1 ht hvm hpost hB hz1 hk1 hS1 => ?_)
  obtain ⟨hw', x, rfl, hkx⟩ := hpost
  obtain ⟨hP1, hK1, hD1⟩ := hB
  rw [ht] at hP1
  exact kk x g' hkx hw' H1 locs1 ls hl hP1 (hD1.weaken (fun _ _ _ h => hF _ h)) hS1
set_option maxHeartbeats 4000000 in
theorem j_callSi {K0 : Int → AG → Prop} (C : JR own cc nL Ts R K J) (B : aCS Ts R own idx y ws rm n) (hn : as.length = n) (hL : L.length = nL) (hst : st.length ≤ 8) (hr : ce ≤ R.cells ∧ sl ≤ R.slots) (hd : decode cc pc = .ok (.invokestatic idx, 3)) (hM : MetI y ws rm Sh as g K0) (kk : (∀ (x : Int) (g' : AG), K0 x g' → J q Sh ce sl (pc + 3) L (.inl x :: st) g')) : J q Sh ce sl pc L (as.reverse ++ st) g := by
  obtain ⟨p, l, e, s, m, args, below, meth, c, A, D, cI, cB, Q, rfl, hx, hb, hml, hown, hts, hK, hA, hret⟩ := C
  intro hw H locs ls hl hP hD hS
  obtain ⟨bytes, maxL, ret, ws', b1, b2, b3, b4, b5, b6⟩ := B
  have hF := a_free hD hS hA
  have hrun := va_runS (As := as.map (a_v q)) (rest := st.map (a_v q)) (g := F0 m pc ls ((as.reverse ++ st).map (a_v q))) (H := H) (locs := locs) (e := e) (below := below) (meth := meth) (cells := ce) (slots := sl) ⟨hx, hb, hml, hown, hts⟩ (hM l D cI cB q H.size hw) (va_cwS n hts b1 b2 b3 b4 b5 b6) ⟨a_blind _, fun U hU hW => ⟨rfl, by rw [hU], by rw [hU]; exact hP, va_K.moved hW.alike hK, hD.weaken (fun _ _ _ _ => trivial)⟩⟩ rfl (by rw [List.length_map]; exact hn) ((a_L_size hl).trans hL) (by simp [a_v]) (lv_room (by rw [a_cats]; exact hst)) hd hr
  refine va_calli hrun hS (fun a _ h => hF a h) hF (fun r g' t H1 locs1 ht hvm hpost hB hz1 hk1 hS1 => ?_)
  obtain ⟨hw', x, rfl, hkx⟩ := hpost
  obtain ⟨hP1, hK1, hD1⟩ := hB
  rw [ht] at hP1
  exact kk x g' hkx hw' H1 locs1 ls hl hP1 (hD1.weaken (fun _ _ _ h => hF _ h)) hS1
set_option maxHeartbeats 4000000 in
theorem j_callVv {K0 : AG → Prop} (C : JR own cc nL Ts R K J) (B : aCV Ts R own idx ci y ws rm n) (hs : Sh[k0]? = some (.inl (ci, fs))) (hn : as.length = n) (hL : L.length = nL) (hst : st.length ≤ 8) (hr : ce ≤ R.cells ∧ sl ≤ R.slots) (hd : decode cc pc = .ok (.invokevirtual idx, 3)) (hM : MetV y ws rm Sh (.inr k0 :: as) g K0) (kk : (∀ (g' : AG), K0 g' → J q Sh ce sl (pc + 3) L st g')) : J q Sh ce sl pc L (as.reverse ++ .inr k0 :: st) g := by
  obtain ⟨p, l, e, s, m, args, below, meth, c, A, D, cI, cB, Q, rfl, hx, hb, hml, hown, hts, hK, hA, hret⟩ := C
  intro hw H locs ls hl hP hD hS
  obtain ⟨T, N, bytes, maxL, ret, ws', b0, b1, b2, b3, b4, b5, b6⟩ := B
  have hF := a_free hD hS hA
  have hrun := va_runV (As := as.map (a_v q)) (rest := st.map (a_v q)) (g := F0 m pc ls ((as.reverse ++ Sum.inr k0 :: st).map (a_v q))) (b := q k0) (H := H) (locs := locs) (e := e) (below := below) (meth := meth) (cells := ce) (slots := sl) ⟨hx, hb, hml, hown, hts⟩ (hM l D cI cB q H.size hw) (cwV n hts b1 b2 b3 b4 ⟨rfl, b5⟩ b6) ⟨a_blind _, va_recv hK hP (q0 := k0) b0 (a_w_at hs), fun U hU hW => ⟨rfl, by rw [hU], by rw [hU]; exact hP, va_K.moved hW.alike hK, hD.weaken (fun _ _ _ _ => trivial)⟩⟩ rfl (by rw [List.length_map]; exact hn) ((a_L_size hl).trans hL) (by simp [a_v]) (lv_room (by rw [a_cats]; exact hst)) hd hr
  refine va_callv hrun hS (fun a _ h => hF a h) hF (fun g' t H1 locs1 ht hvm hpost hB hz1 hk1 hS1 => ?_)
  obtain ⟨hw', hkx⟩ := hpost
  obtain ⟨hP1, hK1, hD1⟩ := hB
  rw [ht] at hP1
  exact kk g' hkx hw' H1 locs1 ls hl hP1 (hD1.weaken (fun _ _ _ h => hF _ h)) hS1
set_option maxHeartbeats 4000000 in
theorem j_callSv {K0 : AG → Prop} (C : JR own cc nL Ts R K J) (B : aCS Ts R own idx y ws rm n) (hn : as.length = n) (hL : L.length = nL) (hst : st.length ≤ 8) (hr : ce ≤ R.cells ∧ sl ≤ R.slots) (hd : decode cc pc = .ok (.invokestatic idx, 3)) (hM : MetV y ws rm Sh as g K0) (kk : (∀ (g' : AG), K0 g' → J q Sh ce sl (pc + 3) L st g')) : J q Sh ce sl pc L (as.reverse ++ st) g := by
  obtain ⟨p, l, e, s, m, args, below, meth, c, A, D, cI, cB, Q, rfl, hx, hb, hml, hown, hts, hK, hA, hret⟩ := C
  intro hw H locs ls hl hP hD hS
  obtain ⟨bytes, maxL, ret, ws', b1, b2, b3, b4, b5, b6⟩ := B
  have hF := a_free hD hS hA
  have hrun := va_runS (As := as.map (a_v q)) (rest := st.map (a_v q)) (g := F0 m pc ls ((as.reverse ++ st).map (a_v q))) (H := H) (locs := locs) (e := e) (below := below) (meth := meth) (cells := ce) (slots := sl) ⟨hx, hb, hml, hown, hts⟩ (hM l D cI cB q H.size hw) (va_cwS n hts b1 b2 b3 b4 b5 b6) ⟨a_blind _, fun U hU hW => ⟨rfl, by rw [hU], by rw [hU]; exact hP, va_K.moved hW.alike hK, hD.weaken (fun _ _ _ _ => trivial)⟩⟩ rfl (by rw [List.length_map]; exact hn) ((a_L_size hl).trans hL) (by simp [a_v]) (lv_room (by rw [a_cats]; exact hst)) hd hr
  refine va_callv hrun hS (fun a _ h => hF a h) hF (fun g' t H1 locs1 ht hvm hpost hB hz1 hk1 hS1 => ?_)
  obtain ⟨hw', hkx⟩ := hpost
  obtain ⟨hP1, hK1, hD1⟩ := hB
  rw [ht] at hP1
  exact kk g' hkx hw' H1 locs1 ls hl hP1 (hD1.weaken (fun _ _ _ h => hF _ h)) hS1
end JCalls
end
