/-! ===== the layer J: numbers are Int, cells are numbered, the state is one function (cell, place) -> Int ===== -/
abbrev AV : Type := Int ⊕ Nat
abbrev AG : Type := Nat → Nat → Int
abbrev AF : Type := Option (Option Nat)
abbrev AC : Type := (Nat × List AF) ⊕ (Bool × Nat)
abbrev AL : Type := List (Option AV)
abbrev aR (x : Int) : Prop := -2147483648 ≤ x ∧ x ≤ 2147483647
def aW (g : AG) : Prop := ∀ k j, aR (g k j)
def i3 (x : Int) : Int32 := Int32.ofInt x
def aset (g : AG) (k j : Nat) (v : Int) : AG := fun k' j' => if k' = k ∧ j' = j then v else g k' j'
def a_v (q : Nat → Nat) : AV → Value
  | .inl x => .int (i3 x)
  | .inr k => .ref (q k)
def a_f (q : Nat → Nat) (g : AG) (k j : Nat) : AF → Value
  | none => .int (i3 (g k j))
  | some none => .null
  | some (some k') => .ref (q k')
def a_c (cI cB : ClassId) (q : Nat → Nat) (g : AG) (k : Nat) : AC → Nat × va_E
  | .inl o => (q k, .inr (o.1, o.2.mapIdx (fun j f => a_f q g k j f)))
  | .inr a => (q k, .inl ((if a.1 then cB else cI), a.2, .inl (fun j => i3 (g k j))))
def a_w (cI cB : ClassId) (q : Nat → Nat) (g : AG) (Sh : List AC) : va_W := Sh.mapIdx (fun k c => a_c cI cB q g k c)
def a_L (q : Nat → Nat) (ls : Array Slot) (L : AL) : Prop := ∃ l : List (Nat × Value), lv_has ls L.length l ∧ ∀ (i : Nat) (v : AV), L[i]? = some (some v) → (i, a_v q v) ∈ l
abbrev a_t (cI cB : ClassId) : List (ClassId × FieldType) := [(cI, .int), (cB, .boolean)]
abbrev JT : Type := (Nat → Nat) → List AC → Nat → Nat → Nat → AL → List AV → AG → Prop
abbrev KT : Type := Option Int → (Nat → Nat) → List AC → Nat → Nat → AG → Prop
def a_J (p : Program) (l : Launch) (e : Env) (R : Room) (s : State) (m : MethodId) (args : Array Value) (below : List Frame) (meth : Method) (c : Code) (A : Nat → Prop) (D : va_G) (cI cB : ClassId) (Q : State → Prop) : JT := fun q Sh ce sl pc L st g =>
  aW g → ∀ (H : Heap) (locs : List Loc) (ls : Array Slot), a_L q ls L → va_P D vwCl (a_w cI cB q g Sh) H → va_D A (a_w cI cB q g Sh) → va_S A s.heap H locs → W p l e R s m args below meth c H locs ce sl Q (F0 m pc ls (st.map (a_v q)))
/-- what a method's walk stands on: everything of the machine is hidden here -/
def JR (own : String) (cc : ByteArray) (nL : Nat) (Ts : List Cond) (R : Room) (K : KT) (J : JT) : Prop :=
  ∃ (p : Program) (l : Launch) (e : Env) (s : State) (m : MethodId) (args : Array Value) (below : List Frame) (meth : Method) (c : Code) (A : Nat → Prop) (D : va_G) (cI cB : ClassId) (Q : State → Prop),
    J = a_J p l e R s m args below meth c A D cI cB Q ∧ p.tables.exec = Jvm.exec ∧ c.code = cc ∧ c.maxLocals = nL ∧ s.vm.findClass own = some m.cls ∧ (∀ w ∈ Ts, w.before args s = true) ∧ va_K D vwCl (a_t cI cB) s ∧ (∀ q, s.heap.size ≤ q → A q) ∧
    ∀ (r : Option Int) (q : Nat → Nat) (Sh : List AC) (ce sl : Nat) (g : AG) (H : Heap) (locs : List Loc) (ls : Array Slot) (pc : Nat), K r q Sh ce sl g → aW g → va_P D vwCl (a_w cI cB q g Sh) H → va_D A (a_w cI cB q g Sh) → va_S A s.heap H locs →
      (∀ x, r = some x → decode cc pc = .ok (.ireturn, 1) → W p l e R s m args below meth c H locs ce sl Q (F0 m pc ls [.int (i3 x)])) ∧ (r = none → decode cc pc = .ok (.return_, 1) → W p l e R s m args below meth c H locs ce sl Q (F0 m pc ls []))
/-! numbers -/
theorem i3_toInt {x : Int} (h : aR x) : (i3 x).toInt = x := Int32.toInt_ofInt_of_le (by have := h.1; omega) (by have := h.2; omega)
theorem i3_lt {x y : Int} (hx : aR x) (hy : aR y) : i3 x < i3 y ↔ x < y := by rw [Int32.lt_iff_toInt_lt, i3_toInt hx, i3_toInt hy]
theorem i3_le {x y : Int} (hx : aR x) (hy : aR y) : i3 x ≤ i3 y ↔ x ≤ y := by rw [Int32.le_iff_toInt_le, i3_toInt hx, i3_toInt hy]
theorem i3_eq {x y : Int} (hx : aR x) (hy : aR y) : i3 x = i3 y ↔ x = y := by rw [← Int32.toInt_inj, i3_toInt hx, i3_toInt hy]
theorem i3_0 : i3 0 = 0 := by decide +kernel
theorem aR_0 : aR 0 := ⟨by decide, by decide⟩
theorem aR_of (x : Int32) : aR x.toInt := ⟨by have := Int32.le_toInt x; omega, by have := Int32.toInt_lt x; omega⟩
theorem i3_of (x : Int32) : i3 x.toInt = x := Int32.ofInt_toInt x
theorem i3_clamp {i : Int} {n : Nat} (h0 : 0 ≤ i) (h : i < n) (hn : n ≤ 2147483647) : (i3 i).toNatClampNeg = i.toNat := by
  show ((i3 i).toInt).toNat = i.toNat
  rw [i3_toInt ⟨by omega, by omega⟩]
theorem i3_in {i : Int} {n : Nat} (h0 : 0 ≤ i) (h : i < n) (hn : n ≤ 2147483647) : vp_in (i3 i) n := by
  rw [vp_in_iff, i3_toInt ⟨by omega, by omega⟩]
  exact ⟨h0, h⟩
theorem aset_s (g : AG) (k j : Nat) (v : Int) : aset g k j v k j = v := by simp [aset]
theorem aset_n (g : AG) {k j k' j' : Nat} (v : Int) (h : k' ≠ k ∨ j' ≠ j) : aset g k j v k' j' = g k' j' := by
  unfold aset
  rw [if_neg]
  rintro ⟨a, b⟩
  rcases h with h | h
  · exact h a
  · exact h b
theorem aset_W {g : AG} (hw : aW g) {k j : Nat} {v : Int} (hv : aR v) : aW (aset g k j v) := by
  intro a b
  unfold aset
  split
  · exact hv
  · exact hw a b
/-! the world -/
theorem a_w_at {cI cB : ClassId} {q : Nat → Nat} {g : AG} {Sh : List AC} {k : Nat} {c : AC} (h : Sh[k]? = some c) : (a_w cI cB q g Sh)[k]? = some (a_c cI cB q g k c) := by
  unfold a_w
  rw [List.getElem?_mapIdx, h]
  rfl
theorem a_c_ne {cI cB : ClassId} {q : Nat → Nat} {g : AG} {k k' j : Nat} {v : Int} (h : k' ≠ k) (c : AC) : a_c cI cB q (aset g k j v) k' c = a_c cI cB q g k' c := by
  have e : ∀ j', aset g k j v k' j' = g k' j' := fun j' => aset_n g v (Or.inl h)
  cases c with
  | inl o =>
    simp only [a_c]
    congr 3
    congr 1
    funext j' f
    rcases f with _ | _ | f <;> simp [a_f, e]
  | inr a => simp only [a_c, e]
theorem a_w_put {cI cB : ClassId} {q : Nat → Nat} {g : AG} {Sh : List AC} {k j : Nat} {v : Int} {c : AC} (h : Sh[k]? = some c) : (a_w cI cB q g Sh).set k (a_c cI cB q (aset g k j v) k c) = a_w cI cB q (aset g k j v) Sh := by
  have hk : k < Sh.length := (List.getElem?_eq_some_iff.mp h).1
  apply List.ext_getElem?
  intro i
  by_cases hi : i = k
  · subst hi
    rw [List.getElem?_set_self (by unfold a_w; simpa using hk), a_w_at h]
  · rw [List.getElem?_set_ne (Ne.symm hi)]
    unfold a_w
    rw [List.getElem?_mapIdx, List.getElem?_mapIdx]
    cases hc : Sh[i]? with
    | none => rfl
    | some c' => exact congrArg some (a_c_ne hi c').symm
theorem a_c_obj {cI cB : ClassId} {q : Nat → Nat} {g : AG} {k j : Nat} {v : Int} {ci : Nat} {fs : List AF} (hf : fs[j]? = some none) : a_c cI cB q (aset g k j v) k (.inl (ci, fs)) = (q k, .inr (ci, (fs.mapIdx (fun j f => a_f q g k j f)).set j (.int (i3 v)))) := by
  have hj : j < fs.length := (List.getElem?_eq_some_iff.mp hf).1
  simp only [a_c]
  congr 3
  apply List.ext_getElem?
  intro i
  by_cases hi : i = j
  · subst hi
    rw [List.getElem?_set_self (by simpa using hj), List.getElem?_mapIdx, hf]
    simp [a_f, aset_s]
  · rw [List.getElem?_set_ne (Ne.symm hi), List.getElem?_mapIdx, List.getElem?_mapIdx]
    cases hc : fs[i]? with
    | none => rfl
    | some f =>
      have e : aset g k j v k i = g k i := aset_n g v (Or.inr hi)
      rcases f with _ | _ | f <;> simp [a_f, e]
theorem a_c_arr {cI cB : ClassId} {q : Nat → Nat} {g : AG} {k j : Nat} {v : Int} {b : Bool} {n : Nat} : a_c cI cB q (aset g k j v) k (.inr (b, n)) = (q k, .inl ((if b then cB else cI), n, .inl (upd (fun j => i3 (g k j)) j (i3 v)))) := by
  simp only [a_c]
  congr 4
  refine congrArg Sum.inl (funext fun i => ?_)
  by_cases hi : i = j
  · subst hi
    simp [aset_s, upd]
  · simp [aset_n g v (Or.inr hi), upd, hi]
/-! locals -/
theorem a_L_at {q : Nat → Nat} {ls : Array Slot} {L : AL} {i : Nat} {v : AV} (h : a_L q ls L) (hi : L[i]? = some (some v)) : ls[i]? = some (.val (a_v q v)) := by
  obtain ⟨l, h1, h2⟩ := h
  exact h1.2.2 _ (h2 i v hi)
theorem a_v_cat (q : Nat → Nat) (v : AV) : (a_v q v).category = 1 := by cases v <;> rfl
theorem a_L_set {q : Nat → Nat} {ls' : Array Slot} {L : AL} {l : List (Nat × Value)} {i : Nat} {v : AV} (h2 : ∀ (i : Nat) (v : AV), L[i]? = some (some v) → (i, a_v q v) ∈ l) (hi : i < L.length) (h' : lv_has ls' L.length ((i, a_v q v) :: l.filter (fun q => !(q.1 == i) && !(q.1 + 1 == i && q.2.category == 2)))) : a_L q ls' (L.set i (some v)) := by
  refine ⟨_, by rw [List.length_set]; exact h', fun j w hj => ?_⟩
  by_cases hji : j = i
  · subst hji
    rw [List.getElem?_set_self hi] at hj
    cases hj
    exact List.mem_cons_self
  · rw [List.getElem?_set_ne (Ne.symm hji)] at hj
    refine List.mem_cons_of_mem _ (List.mem_filter.mpr ⟨h2 j w hj, ?_⟩)
    simp [hji, a_v_cat]
section JRows
variable {own : String} {cc : ByteArray} {nL : Nat} {Ts : List Cond} {R : Room} {K : KT} {J : JT} {q : Nat → Nat} {Sh : List AC} {ce sl pc : Nat} {L : AL} {st : List AV} {g : AG}
theorem j_wf (C : JR own cc nL Ts R K J) (k : aW g → J q Sh ce sl pc L st g) : J q Sh ce sl pc L st g := by
  obtain ⟨p, l, e, s, m, args, below, meth, c, A, D, cI, cB, Q, rfl, hx, hb, hml, hown, hts, hK, hA, hret⟩ := C
  intro hw H locs ls hl hP hD hS
  exact k hw hw H locs ls hl hP hD hS
theorem j_iconst (C : JR own cc nL Ts R K J) {n : Int} (hd : decode cc pc = .ok (.iconst n, 1)) (k : J q Sh ce sl (pc + 1) L (.inl n :: st) g) : J q Sh ce sl pc L st g := by
  obtain ⟨p, l, e, s, m, args, below, meth, c, A, D, cI, cB, Q, rfl, hx, hb, hml, hown, hts, hK, hA, hret⟩ := C
  intro hw H locs ls hl hP hD hS
  exact lv_iconst hx hb hd rfl (k hw H locs ls hl hP hD hS)
theorem j_bipush (C : JR own cc nL Ts R K J) {n : Int} (hd : decode cc pc = .ok (.bipush n, 2)) (hn : (Int8.ofInt n).toInt32 = i3 n) (k : J q Sh ce sl (pc + 2) L (.inl n :: st) g) : J q Sh ce sl pc L st g := by
  obtain ⟨p, l, e, s, m, args, below, meth, c, A, D, cI, cB, Q, rfl, hx, hb, hml, hown, hts, hK, hA, hret⟩ := C
  intro hw H locs ls hl hP hD hS
  exact lv_bipush hx hb hd hn (k hw H locs ls hl hP hD hS)
theorem j_sipush (C : JR own cc nL Ts R K J) {n : Int} (hd : decode cc pc = .ok (.sipush n, 3)) (hn : (Int16.ofInt n).toInt32 = i3 n) (k : J q Sh ce sl (pc + 3) L (.inl n :: st) g) : J q Sh ce sl pc L st g := by
  obtain ⟨p, l, e, s, m, args, below, meth, c, A, D, cI, cB, Q, rfl, hx, hb, hml, hown, hts, hK, hA, hret⟩ := C
  intro hw H locs ls hl hP hD hS
  exact lv_sipush hx hb hd hn (k hw H locs ls hl hP hD hS)
theorem j_ldc (C : JR own cc nL Ts R K J) {i : Nat} (n : Int) (hd : decode cc pc = .ok (.ldc i, 2)) (hw1 : Cond.constant own i (i3 n) ∈ Ts) (k : J q Sh ce sl (pc + 2) L (.inl n :: st) g) : J q Sh ce sl pc L st g := by
  obtain ⟨p, l, e, s, m, args, below, meth, c, A, D, cI, cB, Q, rfl, hx, hb, hml, hown, hts, hK, hA, hret⟩ := C
  intro hw H locs ls hl hP hD hS
  exact lv_ldc hx hb hown (hts _ hw1) hd (k hw H locs ls hl hP hD hS)
theorem j_iload_n (C : JR own cc nL Ts R K J) {i : Fin 4} {x : Int} (hd : decode cc pc = .ok (.iload_n i, 1)) (hi : L[(i : Nat)]? = some (some (.inl x))) (k : J q Sh ce sl (pc + 1) L (.inl x :: st) g) : J q Sh ce sl pc L st g := by
  obtain ⟨p, l, e, s, m, args, below, meth, c, A, D, cI, cB, Q, rfl, hx, hb, hml, hown, hts, hK, hA, hret⟩ := C
  intro hw H locs ls hl hP hD hS
  exact lv_iload_n hx hb hd rfl (a_L_at hl hi) (k hw H locs ls hl hP hD hS)
theorem j_iload (C : JR own cc nL Ts R K J) {i : Nat} {x : Int} (hd : decode cc pc = .ok (.iload i, 2)) (hi : L[i]? = some (some (.inl x))) (k : J q Sh ce sl (pc + 2) L (.inl x :: st) g) : J q Sh ce sl pc L st g := by
  obtain ⟨p, l, e, s, m, args, below, meth, c, A, D, cI, cB, Q, rfl, hx, hb, hml, hown, hts, hK, hA, hret⟩ := C
  intro hw H locs ls hl hP hD hS
  exact lv_iload hx hb hd (a_L_at hl hi) (k hw H locs ls hl hP hD hS)
theorem j_aload_n (C : JR own cc nL Ts R K J) {i : Fin 4} {x : Nat} (hd : decode cc pc = .ok (.aload_n i, 1)) (hi : L[(i : Nat)]? = some (some (.inr x))) (k : J q Sh ce sl (pc + 1) L (.inr x :: st) g) : J q Sh ce sl pc L st g := by
  obtain ⟨p, l, e, s, m, args, below, meth, c, A, D, cI, cB, Q, rfl, hx, hb, hml, hown, hts, hK, hA, hret⟩ := C
  intro hw H locs ls hl hP hD hS
  exact lv_aload_n hx hb hd rfl (a_L_at hl hi) (k hw H locs ls hl hP hD hS)
theorem j_istore_n (C : JR own cc nL Ts R K J) {i : Fin 4} {x : Int} (hd : decode cc pc = .ok (.istore_n i, 1)) (hi : (i : Nat) < L.length) (k : J q Sh ce sl (pc + 1) (L.set (i : Nat) (some (.inl x))) st g) : J q Sh ce sl pc L (.inl x :: st) g := by
  obtain ⟨p, l, e, s, m, args, below, meth, c, A, D, cI, cB, Q, rfl, hx, hb, hml, hown, hts, hK, hA, hret⟩ := C
  intro hw H locs ls hl hP hD hS
  obtain ⟨l0, h1, h2⟩ := hl
  exact lv_istore_n hx hb hd rfl h1 hi rfl (fun ls' h' => k hw H locs ls' (a_L_set h2 hi h') hP hD hS)
theorem j_istore (C : JR own cc nL Ts R K J) {i : Nat} {x : Int} (hd : decode cc pc = .ok (.istore i, 2)) (hi : i < L.length) (k : J q Sh ce sl (pc + 2) (L.set i (some (.inl x))) st g) : J q Sh ce sl pc L (.inl x :: st) g := by
  obtain ⟨p, l, e, s, m, args, below, meth, c, A, D, cI, cB, Q, rfl, hx, hb, hml, hown, hts, hK, hA, hret⟩ := C
  intro hw H locs ls hl hP hD hS
  obtain ⟨l0, h1, h2⟩ := hl
  exact lv_istore hx hb hd h1 hi rfl (fun ls' h' => k hw H locs ls' (a_L_set h2 hi h') hP hD hS)
theorem j_astore_n (C : JR own cc nL Ts R K J) {i : Fin 4} {x : Nat} (hd : decode cc pc = .ok (.astore_n i, 1)) (hi : (i : Nat) < L.length) (k : J q Sh ce sl (pc + 1) (L.set (i : Nat) (some (.inr x))) st g) : J q Sh ce sl pc L (.inr x :: st) g := by
  obtain ⟨p, l, e, s, m, args, below, meth, c, A, D, cI, cB, Q, rfl, hx, hb, hml, hown, hts, hK, hA, hret⟩ := C
  intro hw H locs ls hl hP hD hS
  obtain ⟨l0, h1, h2⟩ := hl
  exact lv_astore_n hx hb hd rfl h1 hi rfl (fun ls' h' => k hw H locs ls' (a_L_set h2 hi h') hP hD hS)
theorem j_iinc (C : JR own cc nL Ts R K J) {i : Nat} {n x : Int} (hd : decode cc pc = .ok (.iinc i n, 3)) (hi : L[i]? = some (some (.inl x))) (k : J q Sh ce sl (pc + 3) (L.set i (some (.inl (x + n)))) st g) : J q Sh ce sl pc L st g := by
  obtain ⟨p, l, e, s, m, args, below, meth, c, A, D, cI, cB, Q, rfl, hx, hb, hml, hown, hts, hK, hA, hret⟩ := C
  intro hw H locs ls hl hP hD hS
  obtain ⟨l0, h1, h2⟩ := hl
  have hl1 := (List.getElem?_eq_some_iff.mp hi).1
  obtain ⟨j, hj⟩ := List.getElem?_of_mem (h2 i _ hi)
  exact lv_iinc (v := i3 (x + n)) hx hb hd h1 hj (Int32.ofInt_add x n).symm hl1 rfl (fun ls' h' => k hw H locs ls' (a_L_set h2 hl1 h') hP hD hS)
theorem j_iadd (C : JR own cc nL Ts R K J) {x y : Int} (hd : decode cc pc = .ok (.iadd, 1)) (k : J q Sh ce sl (pc + 1) L (.inl (x + y) :: st) g) : J q Sh ce sl pc L (.inl y :: .inl x :: st) g := by
  obtain ⟨p, l, e, s, m, args, below, meth, c, A, D, cI, cB, Q, rfl, hx, hb, hml, hown, hts, hK, hA, hret⟩ := C
  intro hw H locs ls hl hP hD hS
  have h := k hw H locs ls hl hP hD hS
  have e9 : i3 (x + y) = i3 x + i3 y := Int32.ofInt_add x y
  refine lv_iadd hx hb hd ?_
  rw [← e9]
  exact h
theorem j_isub (C : JR own cc nL Ts R K J) {x y : Int} (hd : decode cc pc = .ok (.isub, 1)) (k : J q Sh ce sl (pc + 1) L (.inl (x - y) :: st) g) : J q Sh ce sl pc L (.inl y :: .inl x :: st) g := by
  obtain ⟨p, l, e, s, m, args, below, meth, c, A, D, cI, cB, Q, rfl, hx, hb, hml, hown, hts, hK, hA, hret⟩ := C
  intro hw H locs ls hl hP hD hS
  have h := k hw H locs ls hl hP hD hS
  have e9 : i3 (x - y) = i3 x - i3 y := Int32.ofInt_sub x y
  refine lv_isub hx hb hd ?_
  rw [← e9]
  exact h
theorem j_imul (C : JR own cc nL Ts R K J) {x y : Int} (hd : decode cc pc = .ok (.imul, 1)) (k : J q Sh ce sl (pc + 1) L (.inl (x * y) :: st) g) : J q Sh ce sl pc L (.inl y :: .inl x :: st) g := by
  obtain ⟨p, l, e, s, m, args, below, meth, c, A, D, cI, cB, Q, rfl, hx, hb, hml, hown, hts, hK, hA, hret⟩ := C
  intro hw H locs ls hl hP hD hS
  have h := k hw H locs ls hl hP hD hS
  have e9 : i3 (x * y) = i3 x * i3 y := Int32.ofInt_mul x y
  refine lv_imul hx hb hd ?_
  rw [← e9]
  exact h
theorem j_ineg (C : JR own cc nL Ts R K J) {x : Int} (hd : decode cc pc = .ok (.ineg, 1)) (k : J q Sh ce sl (pc + 1) L (.inl (-x) :: st) g) : J q Sh ce sl pc L (.inl x :: st) g := by
  obtain ⟨p, l, e, s, m, args, below, meth, c, A, D, cI, cB, Q, rfl, hx, hb, hml, hown, hts, hK, hA, hret⟩ := C
  intro hw H locs ls hl hP hD hS
  have h := k hw H locs ls hl hP hD hS
  have e9 : i3 (-x) = - i3 x := Int32.ofInt_neg x
  refine lv_ineg hx hb hd ?_
  have e8 : (0 - i3 x) = - i3 x := by rw [Int32.zero_sub]
  first | (rw [← e9]; exact h) | (rw [e8, ← e9]; exact h)
theorem j_iand (C : JR own cc nL Ts R K J) {x y : Int} (hd : decode cc pc = .ok (.iand, 1)) {z : Int} (hz : i3 z = i3 x &&& i3 y) (k : J q Sh ce sl (pc + 1) L (.inl z :: st) g) : J q Sh ce sl pc L (.inl y :: .inl x :: st) g := by
  obtain ⟨p, l, e, s, m, args, below, meth, c, A, D, cI, cB, Q, rfl, hx, hb, hml, hown, hts, hK, hA, hret⟩ := C
  intro hw H locs ls hl hP hD hS
  have h := k hw H locs ls hl hP hD hS
  refine lv_iand hx hb hd ?_
  rw [← hz]
  exact h
theorem j_ior (C : JR own cc nL Ts R K J) {x y : Int} (hd : decode cc pc = .ok (.ior, 1)) {z : Int} (hz : i3 z = i3 x ||| i3 y) (k : J q Sh ce sl (pc + 1) L (.inl z :: st) g) : J q Sh ce sl pc L (.inl y :: .inl x :: st) g := by
  obtain ⟨p, l, e, s, m, args, below, meth, c, A, D, cI, cB, Q, rfl, hx, hb, hml, hown, hts, hK, hA, hret⟩ := C
  intro hw H locs ls hl hP hD hS
  have h := k hw H locs ls hl hP hD hS
  refine lv_ior hx hb hd ?_
  rw [← hz]
  exact h
theorem j_ixor (C : JR own cc nL Ts R K J) {x y : Int} (hd : decode cc pc = .ok (.ixor, 1)) {z : Int} (hz : i3 z = i3 x ^^^ i3 y) (k : J q Sh ce sl (pc + 1) L (.inl z :: st) g) : J q Sh ce sl pc L (.inl y :: .inl x :: st) g := by
  obtain ⟨p, l, e, s, m, args, below, meth, c, A, D, cI, cB, Q, rfl, hx, hb, hml, hown, hts, hK, hA, hret⟩ := C
  intro hw H locs ls hl hP hD hS
  have h := k hw H locs ls hl hP hD hS
  refine lv_ixor hx hb hd ?_
  rw [← hz]
  exact h
theorem j_ishl (C : JR own cc nL Ts R K J) {x y : Int} (hd : decode cc pc = .ok (.ishl, 1)) {z : Int} (hz : i3 z = i3 x <<< (i3 y &&& 31)) (k : J q Sh ce sl (pc + 1) L (.inl z :: st) g) : J q Sh ce sl pc L (.inl y :: .inl x :: st) g := by
  obtain ⟨p, l, e, s, m, args, below, meth, c, A, D, cI, cB, Q, rfl, hx, hb, hml, hown, hts, hK, hA, hret⟩ := C
  intro hw H locs ls hl hP hD hS
  have h := k hw H locs ls hl hP hD hS
  refine lv_ishl hx hb hd ?_
  rw [← hz]
  exact h
theorem j_ishr (C : JR own cc nL Ts R K J) {x y : Int} (hd : decode cc pc = .ok (.ishr, 1)) {z : Int} (hz : i3 z = i3 x >>> (i3 y &&& 31)) (k : J q Sh ce sl (pc + 1) L (.inl z :: st) g) : J q Sh ce sl pc L (.inl y :: .inl x :: st) g := by
  obtain ⟨p, l, e, s, m, args, below, meth, c, A, D, cI, cB, Q, rfl, hx, hb, hml, hown, hts, hK, hA, hret⟩ := C
  intro hw H locs ls hl hP hD hS
  have h := k hw H locs ls hl hP hD hS
  refine lv_ishr hx hb hd ?_
  rw [← hz]
  exact h
theorem j_dup (C : JR own cc nL Ts R K J) {v : AV} (hd : decode cc pc = .ok (.dup, 1)) (k : J q Sh ce sl (pc + 1) L (v :: v :: st) g) : J q Sh ce sl pc L (v :: st) g := by
  obtain ⟨p, l, e, s, m, args, below, meth, c, A, D, cI, cB, Q, rfl, hx, hb, hml, hown, hts, hK, hA, hret⟩ := C
  intro hw H locs ls hl hP hD hS
  exact lv_dup hx hb hd (a_v_cat q v) (k hw H locs ls hl hP hD hS)
theorem j_pop (C : JR own cc nL Ts R K J) {v : AV} (hd : decode cc pc = .ok (.pop, 1)) (k : J q Sh ce sl (pc + 1) L st g) : J q Sh ce sl pc L (v :: st) g := by
  obtain ⟨p, l, e, s, m, args, below, meth, c, A, D, cI, cB, Q, rfl, hx, hb, hml, hown, hts, hK, hA, hret⟩ := C
  intro hw H locs ls hl hP hD hS
  exact lv_pop hx hb hd (a_v_cat q v) (k hw H locs ls hl hP hD hS)
theorem j_dup2 (C : JR own cc nL Ts R K J) {v u : AV} (hd : decode cc pc = .ok (.dup2, 1)) (k : J q Sh ce sl (pc + 1) L (v :: u :: v :: u :: st) g) : J q Sh ce sl pc L (v :: u :: st) g := by
  obtain ⟨p, l, e, s, m, args, below, meth, c, A, D, cI, cB, Q, rfl, hx, hb, hml, hown, hts, hK, hA, hret⟩ := C
  intro hw H locs ls hl hP hD hS
  exact lv_dup2_11 hx hb hd (a_v_cat q v) (a_v_cat q u) (k hw H locs ls hl hP hD hS)
theorem j_icmp_eq (C : JR own cc nL Ts R K J) {x y : Int} {off : Int} {tgt : Nat} (hd : decode cc pc = .ok (.if_icmp .eq off, 3)) (ht : (pc : Int) + off = (tgt : Int)) (hX : aR x) (hY : aR y) (kt : x = y → J q Sh ce sl tgt L st g) (kf : ¬ (x = y) → J q Sh ce sl (pc + 3) L st g) : J q Sh ce sl pc L (.inl y :: .inl x :: st) g := by
  obtain ⟨p, l, e, s, m, args, below, meth, c, A, D, cI, cB, Q, rfl, hx, hb, hml, hown, hts, hK, hA, hret⟩ := C
  intro hw H locs ls hl hP hD hS
  exact lv_icmp_eq hx hb hd ht (fun h => kt ((i3_eq hX hY).mp h) hw H locs ls hl hP hD hS) (fun h => kf (fun z => h ((i3_eq hX hY).mpr z)) hw H locs ls hl hP hD hS)
theorem j_if_eq (C : JR own cc nL Ts R K J) {x : Int} {off : Int} {tgt : Nat} (hd : decode cc pc = .ok (.ifCond .eq off, 3)) (ht : (pc : Int) + off = (tgt : Int)) (hX : aR x) (kt : x = 0 → J q Sh ce sl tgt L st g) (kf : ¬ (x = 0) → J q Sh ce sl (pc + 3) L st g) : J q Sh ce sl pc L (.inl x :: st) g := by
  obtain ⟨p, l, e, s, m, args, below, meth, c, A, D, cI, cB, Q, rfl, hx, hb, hml, hown, hts, hK, hA, hret⟩ := C
  intro hw H locs ls hl hP hD hS
  exact lv_if_eq hx hb hd ht (fun h => kt ((i3_eq hX aR_0).mp (by rw [i3_0]; exact h)) hw H locs ls hl hP hD hS) (fun h => kf (fun z => h (by have h9 := (i3_eq hX aR_0).mpr z; rw [i3_0] at h9; exact h9)) hw H locs ls hl hP hD hS)
theorem j_icmp_ne (C : JR own cc nL Ts R K J) {x y : Int} {off : Int} {tgt : Nat} (hd : decode cc pc = .ok (.if_icmp .ne off, 3)) (ht : (pc : Int) + off = (tgt : Int)) (hX : aR x) (hY : aR y) (kt : ¬ x = y → J q Sh ce sl tgt L st g) (kf : x = y → J q Sh ce sl (pc + 3) L st g) : J q Sh ce sl pc L (.inl y :: .inl x :: st) g := by
  obtain ⟨p, l, e, s, m, args, below, meth, c, A, D, cI, cB, Q, rfl, hx, hb, hml, hown, hts, hK, hA, hret⟩ := C
  intro hw H locs ls hl hP hD hS
  exact lv_icmp_ne hx hb hd ht (fun h => kt (fun z => h (congrArg i3 z)) hw H locs ls hl hP hD hS) (fun h => kf (by first | exact (i3_eq hX hY).mp (Classical.not_not.mp h) | exact (i3_eq hX hY).mp h) hw H locs ls hl hP hD hS)
theorem j_if_ne (C : JR own cc nL Ts R K J) {x : Int} {off : Int} {tgt : Nat} (hd : decode cc pc = .ok (.ifCond .ne off, 3)) (ht : (pc : Int) + off = (tgt : Int)) (hX : aR x) (kt : ¬ x = 0 → J q Sh ce sl tgt L st g) (kf : x = 0 → J q Sh ce sl (pc + 3) L st g) : J q Sh ce sl pc L (.inl x :: st) g := by
  obtain ⟨p, l, e, s, m, args, below, meth, c, A, D, cI, cB, Q, rfl, hx, hb, hml, hown, hts, hK, hA, hret⟩ := C
  intro hw H locs ls hl hP hD hS
  exact lv_if_ne hx hb hd ht (fun h => kt (fun z => h (by rw [z]; exact i3_0)) hw H locs ls hl hP hD hS) (fun h => kf (by rw [← i3_0] at h; first | exact (i3_eq hX aR_0).mp (Classical.not_not.mp h) | exact (i3_eq hX aR_0).mp h) hw H locs ls hl hP hD hS)
theorem j_icmp_lt (C : JR own cc nL Ts R K J) {x y : Int} {off : Int} {tgt : Nat} (hd : decode cc pc = .ok (.if_icmp .lt off, 3)) (ht : (pc : Int) + off = (tgt : Int)) (hX : aR x) (hY : aR y) (kt : x < y → J q Sh ce sl tgt L st g) (kf : ¬ (x < y) → J q Sh ce sl (pc + 3) L st g) : J q Sh ce sl pc L (.inl y :: .inl x :: st) g := by
  obtain ⟨p, l, e, s, m, args, below, meth, c, A, D, cI, cB, Q, rfl, hx, hb, hml, hown, hts, hK, hA, hret⟩ := C
  intro hw H locs ls hl hP hD hS
  exact lv_icmp_lt hx hb hd ht (fun h => kt ((i3_lt hX hY).mp h) hw H locs ls hl hP hD hS) (fun h => kf (fun z => h ((i3_lt hX hY).mpr z)) hw H locs ls hl hP hD hS)
theorem j_if_lt (C : JR own cc nL Ts R K J) {x : Int} {off : Int} {tgt : Nat} (hd : decode cc pc = .ok (.ifCond .lt off, 3)) (ht : (pc : Int) + off = (tgt : Int)) (hX : aR x) (kt : x < 0 → J q Sh ce sl tgt L st g) (kf : ¬ (x < 0) → J q Sh ce sl (pc + 3) L st g) : J q Sh ce sl pc L (.inl x :: st) g := by
  obtain ⟨p, l, e, s, m, args, below, meth, c, A, D, cI, cB, Q, rfl, hx, hb, hml, hown, hts, hK, hA, hret⟩ := C
  intro hw H locs ls hl hP hD hS
  exact lv_if_lt hx hb hd ht (fun h => kt ((i3_lt hX aR_0).mp (by rw [i3_0]; exact h)) hw H locs ls hl hP hD hS) (fun h => kf (fun z => h (by have h9 := (i3_lt hX aR_0).mpr z; rw [i3_0] at h9; exact h9)) hw H locs ls hl hP hD hS)
theorem j_icmp_ge (C : JR own cc nL Ts R K J) {x y : Int} {off : Int} {tgt : Nat} (hd : decode cc pc = .ok (.if_icmp .ge off, 3)) (ht : (pc : Int) + off = (tgt : Int)) (hX : aR x) (hY : aR y) (kt : y ≤ x → J q Sh ce sl tgt L st g) (kf : ¬ (y ≤ x) → J q Sh ce sl (pc + 3) L st g) : J q Sh ce sl pc L (.inl y :: .inl x :: st) g := by
  obtain ⟨p, l, e, s, m, args, below, meth, c, A, D, cI, cB, Q, rfl, hx, hb, hml, hown, hts, hK, hA, hret⟩ := C
  intro hw H locs ls hl hP hD hS
  exact lv_icmp_ge hx hb hd ht (fun h => kt ((i3_le hY hX).mp h) hw H locs ls hl hP hD hS) (fun h => kf (fun z => h ((i3_le hY hX).mpr z)) hw H locs ls hl hP hD hS)
theorem j_if_ge (C : JR own cc nL Ts R K J) {x : Int} {off : Int} {tgt : Nat} (hd : decode cc pc = .ok (.ifCond .ge off, 3)) (ht : (pc : Int) + off = (tgt : Int)) (hX : aR x) (kt : 0 ≤ x → J q Sh ce sl tgt L st g) (kf : ¬ (0 ≤ x) → J q Sh ce sl (pc + 3) L st g) : J q Sh ce sl pc L (.inl x :: st) g := by
  obtain ⟨p, l, e, s, m, args, below, meth, c, A, D, cI, cB, Q, rfl, hx, hb, hml, hown, hts, hK, hA, hret⟩ := C
  intro hw H locs ls hl hP hD hS
  exact lv_if_ge hx hb hd ht (fun h => kt ((i3_le aR_0 hX).mp (by rw [i3_0]; exact h)) hw H locs ls hl hP hD hS) (fun h => kf (fun z => h (by have h9 := (i3_le aR_0 hX).mpr z; rw [i3_0] at h9; exact h9)) hw H locs ls hl hP hD hS)
theorem j_icmp_gt (C : JR own cc nL Ts R K J) {x y : Int} {off : Int} {tgt : Nat} (hd : decode cc pc = .ok (.if_icmp .gt off, 3)) (ht : (pc : Int) + off = (tgt : Int)) (hX : aR x) (hY : aR y) (kt : y < x → J q Sh ce sl tgt L st g) (kf : ¬ (y < x) → J q Sh ce sl (pc + 3) L st g) : J q Sh ce sl pc L (.inl y :: .inl x :: st) g := by
  obtain ⟨p, l, e, s, m, args, below, meth, c, A, D, cI, cB, Q, rfl, hx, hb, hml, hown, hts, hK, hA, hret⟩ := C
  intro hw H locs ls hl hP hD hS
  exact lv_icmp_gt hx hb hd ht (fun h => kt ((i3_lt hY hX).mp h) hw H locs ls hl hP hD hS) (fun h => kf (fun z => h ((i3_lt hY hX).mpr z)) hw H locs ls hl hP hD hS)
theorem j_if_gt (C : JR own cc nL Ts R K J) {x : Int} {off : Int} {tgt : Nat} (hd : decode cc pc = .ok (.ifCond .gt off, 3)) (ht : (pc : Int) + off = (tgt : Int)) (hX : aR x) (kt : 0 < x → J q Sh ce sl tgt L st g) (kf : ¬ (0 < x) → J q Sh ce sl (pc + 3) L st g) : J q Sh ce sl pc L (.inl x :: st) g := by
  obtain ⟨p, l, e, s, m, args, below, meth, c, A, D, cI, cB, Q, rfl, hx, hb, hml, hown, hts, hK, hA, hret⟩ := C
  intro hw H locs ls hl hP hD hS
  exact lv_if_gt hx hb hd ht (fun h => kt ((i3_lt aR_0 hX).mp (by rw [i3_0]; exact h)) hw H locs ls hl hP hD hS) (fun h => kf (fun z => h (by have h9 := (i3_lt aR_0 hX).mpr z; rw [i3_0] at h9; exact h9)) hw H locs ls hl hP hD hS)
theorem j_icmp_le (C : JR own cc nL Ts R K J) {x y : Int} {off : Int} {tgt : Nat} (hd : decode cc pc = .ok (.if_icmp .le off, 3)) (ht : (pc : Int) + off = (tgt : Int)) (hX : aR x) (hY : aR y) (kt : x ≤ y → J q Sh ce sl tgt L st g) (kf : ¬ (x ≤ y) → J q Sh ce sl (pc + 3) L st g) : J q Sh ce sl pc L (.inl y :: .inl x :: st) g := by
  obtain ⟨p, l, e, s, m, args, below, meth, c, A, D, cI, cB, Q, rfl, hx, hb, hml, hown, hts, hK, hA, hret⟩ := C
  intro hw H locs ls hl hP hD hS
  exact lv_icmp_le hx hb hd ht (fun h => kt ((i3_le hX hY).mp h) hw H locs ls hl hP hD hS) (fun h => kf (fun z => h ((i3_le hX hY).mpr z)) hw H locs ls hl hP hD hS)
theorem j_if_le (C : JR own cc nL Ts R K J) {x : Int} {off : Int} {tgt : Nat} (hd : decode cc pc = .ok (.ifCond .le off, 3)) (ht : (pc : Int) + off = (tgt : Int)) (hX : aR x) (kt : x ≤ 0 → J q Sh ce sl tgt L st g) (kf : ¬ (x ≤ 0) → J q Sh ce sl (pc + 3) L st g) : J q Sh ce sl pc L (.inl x :: st) g := by
  obtain ⟨p, l, e, s, m, args, below, meth, c, A, D, cI, cB, Q, rfl, hx, hb, hml, hown, hts, hK, hA, hret⟩ := C
  intro hw H locs ls hl hP hD hS
  exact lv_if_le hx hb hd ht (fun h => kt ((i3_le hX aR_0).mp (by rw [i3_0]; exact h)) hw H locs ls hl hP hD hS) (fun h => kf (fun z => h (by have h9 := (i3_le hX aR_0).mpr z; rw [i3_0] at h9; exact h9)) hw H locs ls hl hP hD hS)
theorem j_goto (C : JR own cc nL Ts R K J) {off : Int} {tgt : Nat} (hd : decode cc pc = .ok (.goto off, 3)) (ht : (pc : Int) + off = (tgt : Int)) (k : J q Sh ce sl tgt L st g) : J q Sh ce sl pc L st g := by
  obtain ⟨p, l, e, s, m, args, below, meth, c, A, D, cI, cB, Q, rfl, hx, hb, hml, hown, hts, hK, hA, hret⟩ := C
  intro hw H locs ls hl hP hD hS
  exact lv_goto hx hb hd ht (k hw H locs ls hl hP hD hS)
theorem j_tout (C : JR own cc nL Ts R K J) {dflt lo hi x : Int} {offs : Array Int} {len tgt : Nat} (hd : decode cc pc = .ok (.tableswitch dflt lo hi offs, len)) (hX : aR x) (h : x < lo ∨ hi < x) (ht : (pc : Int) + dflt = (tgt : Int)) (k : J q Sh ce sl tgt L st g) : J q Sh ce sl pc L (.inl x :: st) g := by
  obtain ⟨p, l, e, s, m, args, below, meth, c, A, D, cI, cB, Q, rfl, hx, hb, hml, hown, hts, hK, hA, hret⟩ := C
  intro hw H locs ls hl hP hD hS
  exact lv_tableOut hx hb hd (by rw [i3_toInt hX]; exact h) ht (k hw H locs ls hl hP hD hS)
theorem j_tin (C : JR own cc nL Ts R K J) {dflt lo hi x off : Int} {offs : Array Int} {len tgt : Nat} (hd : decode cc pc = .ok (.tableswitch dflt lo hi offs, len)) (hX : aR x) (h1 : ¬ x < lo) (h2 : ¬ hi < x) (ho : offs[(x - lo).toNat]? = some off) (ht : (pc : Int) + off = (tgt : Int)) (k : J q Sh ce sl tgt L st g) : J q Sh ce sl pc L (.inl x :: st) g := by
  obtain ⟨p, l, e, s, m, args, below, meth, c, A, D, cI, cB, Q, rfl, hx, hb, hml, hown, hts, hK, hA, hret⟩ := C
  intro hw H locs ls hl hP hD hS
  exact lv_tableIn hx hb hd (by rw [i3_toInt hX]; exact h1) (by rw [i3_toInt hX]; exact h2) (by rw [i3_toInt hX]; exact ho) ht (k hw H locs ls hl hP hD hS)
theorem j_iret (C : JR own cc nL Ts R K J) {x : Int} (hd : decode cc pc = .ok (.ireturn, 1)) (k : aW g → K (some x) q Sh ce sl g) : J q Sh ce sl pc L [.inl x] g := by
  obtain ⟨p, l, e, s, m, args, below, meth, c, A, D, cI, cB, Q, rfl, hx, hb, hml, hown, hts, hK, hA, hret⟩ := C
  intro hw H locs ls hl hP hD hS
  exact (hret (some x) q Sh ce sl g H locs ls pc (k hw) hw hP hD hS).1 x rfl hd
theorem j_vret (C : JR own cc nL Ts R K J) (hd : decode cc pc = .ok (.return_, 1)) (k : aW g → K none q Sh ce sl g) : J q Sh ce sl pc L [] g := by
  obtain ⟨p, l, e, s, m, args, below, meth, c, A, D, cI, cB, Q, rfl, hx, hb, hml, hown, hts, hK, hA, hret⟩ := C
  intro hw H locs ls hl hP hD hS
  exact (hret none q Sh ce sl g H locs ls pc (k hw) hw hP hD hS).2 rfl hd
end JRows
