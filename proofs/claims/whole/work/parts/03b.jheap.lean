/-! ===== the layer J: fields, arrays, calls, contracts ===== -/
/-- a field as a method's words know it: class number ci, slot j, by the pool entry idx -/
def aFL (Ts : List Cond) (own : String) (idx ci j : Nat) : Prop := ∃ (C : String) (T : u_T) (N : Nat), vwCl[ci]? = some (C, T, N) ∧ (∀ w ∈ u_ws C T N, w ∈ Ts) ∧ j < N ∧ Cond.fieldLink own idx (T j).1 (T j).2.1 (T j).2.2.1 ∈ Ts
/-- and as it is written -/
def aFP (Ts : List Cond) (own : String) (idx ci j : Nat) (bo : Bool) : Prop := ∃ (C : String) (T : u_T) (N : Nat) (ty : Nat → FieldType), vwCl[ci]? = some (C, T, N) ∧ (∀ w ∈ u_ws C T N, w ∈ Ts) ∧ (∀ k, k < N → parseFieldDescriptor (T k).2.2.1 = some (ty k)) ∧ (∀ a, a < N → ∀ b, b < N → a ≠ b → (T a).2.1 ≠ (T b).2.1) ∧ j < N ∧ Cond.fieldLink own idx (T j).1 (T j).2.1 (T j).2.2.1 ∈ Ts ∧ (T j).2.2.2 = false ∧ ty j = (if bo then .boolean else .int)
theorem a_nar {bo : Bool} {x : Int} (h : bo = true → x = 0 ∨ x = 1) : narrow (if bo then .boolean else .int) (.int (i3 x)) = .int (i3 x) ∧ fits (if bo then .boolean else .int) (.int (i3 x)) = true := by
  cases bo with
  | false => exact ⟨rfl, rfl⟩
  | true =>
    rcases h rfl with rfl | rfl
    · exact ⟨by decide +kernel, by decide +kernel⟩
    · exact ⟨by decide +kernel, by decide +kernel⟩
section JHeap
variable {own : String} {cc : ByteArray} {nL : Nat} {Ts : List Cond} {R : Room} {K : KT} {J : JT} {q : Nat → Nat} {Sh : List AC} {ce sl pc : Nat} {L : AL} {st : List AV} {g : AG}
theorem j_getI (C : JR own cc nL Ts R K J) {idx ci j k : Nat} {fs : List AF} (F : aFL Ts own idx ci j) (hs : Sh[k]? = some (.inl (ci, fs))) (hf : fs[j]? = some none) (hd : decode cc pc = .ok (.getfield idx, 3)) (kk : J q Sh ce sl (pc + 3) L (.inl (g k j) :: st) g) : J q Sh ce sl pc L (.inr k :: st) g := by
  obtain ⟨p, l, e, s, m, args, below, meth, c, A, D, cI, cB, Q, rfl, hx, hb, hml, hown, hts, hK, hA, hret⟩ := C
  intro hw H locs ls hl hP hD hS
  obtain ⟨Cn, T, N, f1, f2, f3, f4⟩ := F
  refine va_get (D := D) (cl := vwCl) (v := .int (i3 (g k j))) hx hb hts f2 hown hK hP k (a_w_at hs) f1 j f3 (hts _ f4) (fun _ h => h) ?_ hd (kk hw H locs ls hl hP hD hS)
  show (fs.mapIdx (fun j f => a_f q g k j f))[j]? = _
  rw [List.getElem?_mapIdx, hf]
  rfl
theorem j_getR (C : JR own cc nL Ts R K J) {idx ci j k k' : Nat} {fs : List AF} (F : aFL Ts own idx ci j) (hs : Sh[k]? = some (.inl (ci, fs))) (hf : fs[j]? = some (some (some k'))) (hd : decode cc pc = .ok (.getfield idx, 3)) (kk : J q Sh ce sl (pc + 3) L (.inr k' :: st) g) : J q Sh ce sl pc L (.inr k :: st) g := by
  obtain ⟨p, l, e, s, m, args, below, meth, c, A, D, cI, cB, Q, rfl, hx, hb, hml, hown, hts, hK, hA, hret⟩ := C
  intro hw H locs ls hl hP hD hS
  obtain ⟨Cn, T, N, f1, f2, f3, f4⟩ := F
  refine va_get (D := D) (cl := vwCl) (v := .ref (q k')) hx hb hts f2 hown hK hP k (a_w_at hs) f1 j f3 (hts _ f4) (fun _ h => h) ?_ hd (kk hw H locs ls hl hP hD hS)
  show (fs.mapIdx (fun j f => a_f q g k j f))[j]? = _
  rw [List.getElem?_mapIdx, hf]
  rfl
theorem j_putI (C : JR own cc nL Ts R K J) {idx ci j k : Nat} {bo : Bool} {fs : List AF} {x : Int} (F : aFP Ts own idx ci j bo) (hs : Sh[k]? = some (.inl (ci, fs))) (hf : fs[j]? = some none) (hX : aR x) (hB : bo = true → x = 0 ∨ x = 1) (hd : decode cc pc = .ok (.putfield idx, 3)) (kk : J q Sh ce sl (pc + 3) L st (aset g k j x)) : J q Sh ce sl pc L (.inl x :: .inr k :: st) g := by
  obtain ⟨p, l, e, s, m, args, below, meth, c, A, D, cI, cB, Q, rfl, hx, hb, hml, hown, hts, hK, hA, hret⟩ := C
  intro hw H locs ls hl hP hD hS
  obtain ⟨Cn, T, N, ty, f1, f2, f3, f4, f5, f6, f7, f8⟩ := F
  obtain ⟨n1, n2⟩ := a_nar (bo := bo) (x := x) hB
  have hj : j < fs.length := (List.getElem?_eq_some_iff.mp hf).1
  refine va_put (D := D) (cl := vwCl) (v := .int (i3 x)) (ty := if bo then .boolean else .int) hx hb hts f2 ty f3 f4 hown hK hP hD hS k (a_w_at hs) f1 j f5 (hts _ f6) (fun _ h => h) f7 (by rw [f3 j f5, f8]) n1 n2 (by simpa using hj) hd (fun H1 locs1 hP1 hD1 hS1 => ?_)
  have e9 := a_w_put (cI := cI) (cB := cB) (q := q) (g := g) (v := x) (j := j) hs
  rw [a_c_obj hf] at e9
  rw [e9] at hP1 hD1
  exact kk (aset_W hw hX) H1 locs1 ls hl hP1 hD1 hS1
theorem j_iaload (C : JR own cc nL Ts R K J) {k n : Nat} {i : Int} (hs : Sh[k]? = some (.inr (false, n))) (hn : n ≤ 2147483647) (hd : decode cc pc = .ok (.iaload, 1)) (h0 : 0 ≤ i) (h1 : i < n) (kk : J q Sh ce sl (pc + 1) L (.inl (g k i.toNat) :: st) g) : J q Sh ce sl pc L (.inl i :: .inr k :: st) g := by
  obtain ⟨p, l, e, s, m, args, below, meth, c, A, D, cI, cB, Q, rfl, hx, hb, hml, hown, hts, hK, hA, hret⟩ := C
  intro hw H locs ls hl hP hD hS
  refine va_iald (D := D) (cl := vwCl) (f := fun j => i3 (g k j)) hx hb hK hP k 0 (a_w_at hs) rfl (i3_in h0 h1 hn) hd ?_
  rw [i3_clamp h0 h1 hn]
  exact kk hw H locs ls hl hP hD hS
theorem j_baload (C : JR own cc nL Ts R K J) {k n : Nat} {i : Int} (hs : Sh[k]? = some (.inr (true, n))) (hn : n ≤ 2147483647) (hd : decode cc pc = .ok (.baload, 1)) (h0 : 0 ≤ i) (h1 : i < n) (kk : J q Sh ce sl (pc + 1) L (.inl (g k i.toNat) :: st) g) : J q Sh ce sl pc L (.inl i :: .inr k :: st) g := by
  obtain ⟨p, l, e, s, m, args, below, meth, c, A, D, cI, cB, Q, rfl, hx, hb, hml, hown, hts, hK, hA, hret⟩ := C
  intro hw H locs ls hl hP hD hS
  refine va_zald (D := D) (cl := vwCl) (f := fun j => i3 (g k j)) hx hb hK hP k 1 (a_w_at hs) rfl (i3_in h0 h1 hn) hd ?_
  rw [i3_clamp h0 h1 hn]
  exact kk hw H locs ls hl hP hD hS
theorem j_iastore (C : JR own cc nL Ts R K J) {k n : Nat} {i x : Int} (hs : Sh[k]? = some (.inr (false, n))) (hn : n ≤ 2147483647) (hd : decode cc pc = .ok (.iastore, 1)) (h0 : 0 ≤ i) (h1 : i < n) (hX : aR x) (kk : J q Sh ce sl (pc + 1) L st (aset g k i.toNat x)) : J q Sh ce sl pc L (.inl x :: .inl i :: .inr k :: st) g := by
  obtain ⟨p, l, e, s, m, args, below, meth, c, A, D, cI, cB, Q, rfl, hx, hb, hml, hown, hts, hK, hA, hret⟩ := C
  intro hw H locs ls hl hP hD hS
  refine va_iast (D := D) (cl := vwCl) (f := fun j => i3 (g k j)) hx hb hK hP hD hS k 0 (a_w_at hs) rfl (i3_in h0 h1 hn) hd (fun H1 locs1 hP1 hD1 hS1 => ?_)
  rw [i3_clamp h0 h1 hn] at hP1 hD1
  have e9 := a_w_put (cI := cI) (cB := cB) (q := q) (g := g) (v := x) (j := i.toNat) hs
  rw [a_c_arr] at e9
  have e9 : (a_w cI cB q g Sh).set k (q k, .inl (cI, n, .inl (upd (fun j => i3 (g k j)) i.toNat (i3 x)))) = _ := e9
  have hP1 : va_P D vwCl (a_w cI cB q (aset g k i.toNat x) Sh) H1 := by rw [← e9]; exact hP1
  have hD1 : va_D A (a_w cI cB q (aset g k i.toNat x) Sh) := by rw [← e9]; exact hD1
  exact kk (aset_W hw hX) H1 locs1 ls hl hP1 hD1 hS1
theorem j_bastore (C : JR own cc nL Ts R K J) {k n : Nat} {i x : Int} (hs : Sh[k]? = some (.inr (true, n))) (hn : n ≤ 2147483647) (hd : decode cc pc = .ok (.bastore, 1)) (h0 : 0 ≤ i) (h1 : i < n) (hB : x = 0 ∨ x = 1) (kk : J q Sh ce sl (pc + 1) L st (aset g k i.toNat x)) : J q Sh ce sl pc L (.inl x :: .inl i :: .inr k :: st) g := by
  obtain ⟨p, l, e, s, m, args, below, meth, c, A, D, cI, cB, Q, rfl, hx, hb, hml, hown, hts, hK, hA, hret⟩ := C
  intro hw H locs ls hl hP hD hS
  refine va_zast (D := D) (cl := vwCl) (f := fun j => i3 (g k j)) hx hb hK hP hD hS k 1 (a_w_at hs) rfl (i3_in h0 h1 hn) hd (fun H1 locs1 hP1 hD1 hS1 => ?_)
  have e8 : vp_nar .boolean (i3 x) = i3 x := by rcases hB with rfl | rfl <;> decide +kernel
  rw [i3_clamp h0 h1 hn, e8] at hP1 hD1
  have e9 := a_w_put (cI := cI) (cB := cB) (q := q) (g := g) (v := x) (j := i.toNat) hs
  rw [a_c_arr] at e9
  have e9 : (a_w cI cB q g Sh).set k (q k, .inl (cB, n, .inl (upd (fun j => i3 (g k j)) i.toNat (i3 x)))) = _ := e9
  have hP1 : va_P D vwCl (a_w cI cB q (aset g k i.toNat x) Sh) H1 := by rw [← e9]; exact hP1
  have hD1 : va_D A (a_w cI cB q (aset g k i.toNat x) Sh) := by rw [← e9]; exact hD1
  exact kk (aset_W hw ⟨by omega, by omega⟩) H1 locs1 ls hl hP1 hD1 hS1
theorem j_alen (C : JR own cc nL Ts R K J) {k n : Nat} {b : Bool} (hs : Sh[k]? = some (.inr (b, n))) (hd : decode cc pc = .ok (.arraylength, 1)) (kk : J q Sh ce sl (pc + 1) L (.inl (n : Int) :: st) g) : J q Sh ce sl pc L (.inr k :: st) g := by
  obtain ⟨p, l, e, s, m, args, below, meth, c, A, D, cI, cB, Q, rfl, hx, hb, hml, hown, hts, hK, hA, hret⟩ := C
  intro hw H locs ls hl hP hD hS
  have e9 : Int32.ofNat n = i3 (n : Int) := (Int32.ofInt_eq_ofNat).symm
  cases b with
  | false => exact va_alen (D := D) (cl := vwCl) (x := (n, .inl (fun j => i3 (g k j)))) hx hb hK hP k 0 (a_w_at hs) rfl e9 hd (kk hw H locs ls hl hP hD hS)
  | true => exact va_alen (D := D) (cl := vwCl) (x := (n, .inl (fun j => i3 (g k j)))) hx hb hK hP k 1 (a_w_at hs) rfl e9 hd (kk hw H locs ls hl hP hD hS)
/-- the words of a Math method -/
def aMw (Ts : List Cond) (own : String) (idx : Nat) (y : MethodName) (code : ByteArray) (n : Nat) : Prop := Cond.methodLink own idx y ∈ Ts ∧ Cond.static y ∈ Ts ∧ Cond.initialized "java/lang/Math" ∈ Ts ∧ Cond.code y code n (some .int) ∈ Ts
theorem a_cats (q : Nat → Nat) : ∀ (st : List AV), ((st.map (a_v q)).map fun v => v.category).sum = st.length
  | [] => rfl
  | v :: st => by
    rw [List.map_cons, List.map_cons, List.sum_cons, a_v_cat, a_cats q st, List.length_cons]
    omega
theorem a_L_size {q : Nat → Nat} {ls : Array Slot} {L : AL} (h : a_L q ls L) : ls.size = L.length := by
  obtain ⟨l, h1, -⟩ := h
  exact h1.1
theorem j_mabs (C : JR own cc nL Ts R K J) {idx : Nat} {x : Int} (M : aMw Ts own idx Lib.Math.abs.name Lib.Math.abs.code 1) (hL : L.length = nL) (hr : 1 ≤ R.frames ∧ st.length + 13 ≤ R.locals ∧ ce ≤ R.cells ∧ sl ≤ R.slots) (hd : decode cc pc = .ok (.invokestatic idx, 3)) (hX : aR x) (h9 : x ≠ -2147483648) (kk : J q Sh ce sl (pc + 3) L (.inl (x.natAbs : Int) :: st) g) : J q Sh ce sl pc L (.inl x :: st) g := by
  obtain ⟨p, l, e, s, m, args, below, meth, c, A, D, cI, cB, Q, rfl, hx, hb, hml, hown, hts, hK, hA, hret⟩ := C
  intro hw H locs ls hl hP hD hS
  refine va_mabs hx hb (by rw [hml, a_L_size hl, hL]) hown (hts _ M.1) (hts _ M.2.1) (hts _ M.2.2.1) (hts _ M.2.2.2) hr.1 (by rw [a_cats]; exact hr.2.1) hr.2.2.1 hr.2.2.2 hd ?_
  have e9 : (if 0 ≤ i3 x then i3 x else 0 - i3 x) = i3 (x.natAbs : Int) := by
    have e8 : (0 ≤ i3 x) ↔ 0 ≤ x := by rw [← i3_0]; exact i3_le aR_0 hX
    by_cases h : 0 ≤ x
    · rw [if_pos (e8.mpr h)]
      congr 1
      omega
    · rw [if_neg (fun z => h (e8.mp z)), ← i3_0]
      show Int32.ofInt 0 - Int32.ofInt x = Int32.ofInt _
      rw [← Int32.ofInt_sub]
      congr 1
      omega
  rw [e9]
  exact kk hw H locs ls hl hP hD hS
theorem j_mmax (C : JR own cc nL Ts R K J) {idx : Nat} {x y : Int} (M : aMw Ts own idx Lib.Math.max.name Lib.Math.max.code 2) (hL : L.length = nL) (hr : 1 ≤ R.frames ∧ st.length + 13 ≤ R.locals ∧ ce ≤ R.cells ∧ sl ≤ R.slots) (hd : decode cc pc = .ok (.invokestatic idx, 3)) (hX : aR x) (hY : aR y) (kk : J q Sh ce sl (pc + 3) L (.inl (max x y) :: st) g) : J q Sh ce sl pc L (.inl y :: .inl x :: st) g := by
  obtain ⟨p, l, e, s, m, args, below, meth, c, A, D, cI, cB, Q, rfl, hx, hb, hml, hown, hts, hK, hA, hret⟩ := C
  intro hw H locs ls hl hP hD hS
  refine va_mmax hx hb (by rw [hml, a_L_size hl, hL]) hown (hts _ M.1) (hts _ M.2.1) (hts _ M.2.2.1) (hts _ M.2.2.2) hr.1 (by rw [a_cats]; exact hr.2.1) hr.2.2.1 hr.2.2.2 hd ?_
  have e9 : (if i3 x < i3 y then i3 y else i3 x) = i3 (max x y) := by
    by_cases h : x < y
    · rw [if_pos ((i3_lt hX hY).mpr h)]
      congr 1
      omega
    · rw [if_neg (fun z => h ((i3_lt hX hY).mp z))]
      congr 1
      omega
  rw [e9]
  exact kk hw H locs ls hl hP hD hS
theorem j_mmin (C : JR own cc nL Ts R K J) {idx : Nat} {x y : Int} (M : aMw Ts own idx Lib.Math.min.name Lib.Math.min.code 2) (hL : L.length = nL) (hr : 1 ≤ R.frames ∧ st.length + 13 ≤ R.locals ∧ ce ≤ R.cells ∧ sl ≤ R.slots) (hd : decode cc pc = .ok (.invokestatic idx, 3)) (hX : aR x) (hY : aR y) (kk : J q Sh ce sl (pc + 3) L (.inl (min x y) :: st) g) : J q Sh ce sl pc L (.inl y :: .inl x :: st) g := by
  obtain ⟨p, l, e, s, m, args, below, meth, c, A, D, cI, cB, Q, rfl, hx, hb, hml, hown, hts, hK, hA, hret⟩ := C
  intro hw H locs ls hl hP hD hS
  refine va_mmin hx hb (by rw [hml, a_L_size hl, hL]) hown (hts _ M.1) (hts _ M.2.1) (hts _ M.2.2.1) (hts _ M.2.2.2) hr.1 (by rw [a_cats]; exact hr.2.1) hr.2.2.1 hr.2.2.2 hd ?_
  have e9 : (if i3 y < i3 x then i3 y else i3 x) = i3 (min x y) := by
    by_cases h : y < x
    · rw [if_pos ((i3_lt hY hX).mpr h)]
      congr 1
      omega
    · rw [if_neg (fun z => h ((i3_lt hY hX).mp z))]
      congr 1
      omega
  rw [e9]
  exact kk hw H locs ls hl hP hD hS
end JHeap
/-! contracts: a method of which the world keeps its shape -/
abbrev a_P (D : va_G) (cI cB : ClassId) (q : Nat → Nat) (Sh : List AC) (g : AG) (sz : Nat) (U : State) : Prop := U.heap.size = sz ∧ va_P D vwCl (a_w cI cB q g Sh) U.heap ∧ va_K D vwCl (a_t cI cB) U ∧ va_D (fun _ => True) (a_w cI cB q g Sh)
abbrev a_B (D : va_G) (cI cB : ClassId) (q : Nat → Nat) (Sh : List AC) (A : Nat → Prop) (g : AG) (t : State) : Prop := va_P D vwCl (a_w cI cB q g Sh) t.heap ∧ va_K D vwCl (a_t cI cB) t ∧ va_D A (a_w cI cB q g Sh)
def MetI (y : MethodName) (ws : List Cond) (rm : Room) (Sh : List AC) (as : List AV) (g : AG) (K : Int → AG → Prop) : Prop := ∀ (l : Launch) (D : va_G) (cI cB : ClassId) (q : Nat → Nat) (sz : Nat), aW g → Met l y ws rm (va_Pc (as.map (a_v q)) (a_P D cI cB q Sh g sz)) (va_Qi (fun (r : Int32) (g' : AG) => aW g' ∧ ∃ x, r = i3 x ∧ K x g') (a_B D cI cB q Sh (va_A (a_w cI cB q g Sh) sz)) (va_A (a_w cI cB q g Sh) sz)) 0 0 (va_A (a_w cI cB q g Sh) sz)
def MetV (y : MethodName) (ws : List Cond) (rm : Room) (Sh : List AC) (as : List AV) (g : AG) (K : AG → Prop) : Prop := ∀ (l : Launch) (D : va_G) (cI cB : ClassId) (q : Nat → Nat) (sz : Nat), aW g → Met l y ws rm (va_Pc (as.map (a_v q)) (a_P D cI cB q Sh g sz)) (va_Qv (fun (g' : AG) => aW g' ∧ K g') (a_B D cI cB q Sh (va_A (a_w cI cB q g Sh) sz)) (va_A (a_w cI cB q g Sh) sz)) 0 0 (va_A (a_w cI cB q g Sh) sz)
/-- the end of such a method -/
def kI (bo : Bool) (q0 : Nat → Nat) (Sh0 : List AC) (K : Int → AG → Prop) : KT := fun r q Sh ce sl g => q = q0 ∧ Sh = Sh0 ∧ ce = 0 ∧ sl = 0 ∧ ∃ x, r = some x ∧ (bo = true → x = 0 ∨ x = 1) ∧ K x g
def kV (q0 : Nat → Nat) (Sh0 : List AC) (K : AG → Prop) : KT := fun r q Sh ce sl g => q = q0 ∧ Sh = Sh0 ∧ ce = 0 ∧ sl = 0 ∧ r = none ∧ K g
theorem a_w_len (cI cB : ClassId) (q : Nat → Nat) (g : AG) (Sh : List AC) : (a_w cI cB q g Sh).length = Sh.length := by simp [a_w]
theorem a_c_1 (cI cB : ClassId) (q : Nat → Nat) (g : AG) (k : Nat) (c : AC) : (a_c cI cB q g k c).1 = q k := by cases c <;> rfl
theorem va_A_gg (cI cB : ClassId) (q : Nat → Nat) (g g' : AG) (Sh : List AC) (sz a : Nat) : va_A (a_w cI cB q g Sh) sz a → va_A (a_w cI cB q g' Sh) sz a := by
  rintro (⟨k, e, h⟩ | h)
  · left
    unfold a_w at h ⊢
    rw [List.getElem?_mapIdx] at h
    cases hc : Sh[k]? with
    | none => rw [hc] at h; cases h
    | some c0 =>
      rw [hc] at h
      have h1 : a_c cI cB q g k c0 = (a, e) := Option.some.inj h
      refine ⟨k, (a_c cI cB q g' k c0).2, ?_⟩
      rw [List.getElem?_mapIdx, hc]
      show some (a_c cI cB q g' k c0) = _
      have h2 : (a_c cI cB q g' k c0).1 = a := by rw [a_c_1, ← a_c_1 cI cB q g k c0, h1]
      rw [← h2]
  · exact Or.inr h
theorem a_entry (q : Nat → Nat) : ∀ (as : List AV) (n : Nat), lv_args n (as.map (a_v q)) = as.mapIdx (fun i v => (n + i, a_v q v))
  | [], n => rfl
  | v :: as, n => by
    rw [List.map_cons, List.mapIdx_cons]
    have e9 : lv_args n (a_v q v :: as.map (a_v q)) = (n, a_v q v) :: lv_args (n + 1) (as.map (a_v q)) := by
      cases v <;> rfl
    rw [e9, a_entry q as (n + 1)]
    congr 1
    congr 1
    funext i v
    congr 1
    omega
theorem a_slots (q : Nat → Nat) : ∀ (as : List AV), (lg_sl (as.map (a_v q))).length = as.length
  | [] => rfl
  | v :: as => by
    have e9 : lg_sl (a_v q v :: as.map (a_v q)) = .val (a_v q v) :: lg_sl (as.map (a_v q)) := by
      cases v <;> rfl
    rw [List.map_cons, e9, List.length_cons, List.length_cons, a_slots q as]
abbrev a_L0 (as : List AV) (nL : Nat) : AL := as.map some ++ List.replicate (nL - as.length) none
theorem a_L_entry (q : Nat → Nat) (as : List AV) {nL : Nat} (h : as.length ≤ nL) : a_L q ((lg_sl (as.map (a_v q)) ++ List.replicate (nL - (lg_sl (as.map (a_v q))).length) Slot.unset).toArray) (a_L0 as nL) := by
  have h1 := lv_entry (as.map (a_v q)) (n := nL) (by rw [a_slots]; exact h)
  have e9 : (a_L0 as nL).length = nL := by simp [a_L0]; omega
  refine ⟨_, by rw [e9]; exact h1, fun i v hi => ?_⟩
  rw [a_entry]
  have h2 : as[i]? = some v := by
    by_cases hl : i < as.length
    · rw [List.getElem?_append_left (by simpa using hl), List.getElem?_map] at hi
      cases hc : as[i]? with
      | none => rw [hc] at hi; cases hi
      | some z => rw [hc] at hi; cases hi; rfl
    · rw [List.getElem?_append_right (by simpa using hl)] at hi
      have := List.mem_of_getElem? hi
      rw [List.mem_replicate] at this
      cases this.2
  apply List.mem_of_getElem? (i := i)
  rw [List.getElem?_mapIdx, h2]
  simp
set_option maxHeartbeats 4000000 in
theorem metI_of {y : MethodName} {ws ws' : List Cond} {rm : Room} {Sh : List AC} {as : List AV} {g : AG} {K : Int → AG → Prop} {cc : ByteArray} {nL : Nat} (bo : Bool) (hy : plainName y.cls = true) (hw : ws = Cond.code y cc nL (some (if bo then .boolean else .int)) :: ws') (hn : as.length ≤ nL)
    (body : ∀ (q : Nat → Nat) (J : JT), JR y.cls cc nL ws rm (kI bo q Sh K) J → J q Sh 0 0 0 (a_L0 as nL) [] g) : MetI y ws rm Sh as g K := by
  intro l D cI cB q sz hwf
  refine Met.ofW (cc := cc) (maxL := nL) (ret := some (if bo then .boolean else .int)) hy hw ?_
  intro p e s m args below meth c s₁ B hml hv
  obtain ⟨hv0, hsz, hP, hK, hD0⟩ := hv
  subst hv0
  subst hsz
  have hts := atoms_spec (ws := ws) B.pre
  have hown : s.vm.findClass y.cls = some m.cls := findClass_of_methodNamed B.named
  have hlocks := B.notSynchronized
  have hD := hD0.self (sz := s.heap.size)
  have C : JR y.cls cc nL ws rm (kI bo q Sh K) (a_J p l e rm s m (as.map (a_v q)).toArray below meth c (va_A (a_w cI cB q g Sh) s.heap.size) D cI cB (MQ below (va_Qi (fun (r : Int32) (g' : AG) => aW g' ∧ ∃ x, r = i3 x ∧ K x g') (a_B D cI cB q Sh (va_A (a_w cI cB q g Sh) s.heap.size)) (va_A (a_w cI cB q g Sh) s.heap.size)) (as.map (a_v q)).toArray s 0 0 (va_A (a_w cI cB q g Sh) s.heap.size))) := by
    refine ⟨p, l, e, s, m, (as.map (a_v q)).toArray, below, meth, c, va_A (a_w cI cB q g Sh) s.heap.size, D, cI, cB, _, rfl, B.exec, B.bytes, hml, hown, hts, hK, fun q h => Or.inr h, ?_⟩
    intro r q2 Sh2 ce sl g2 H locs ls pc hk hw2 hP2 hD2 hS2
    obtain ⟨rfl, rfl, rfl, rfl, x, rfl, hbo, hkx⟩ := hk
    refine ⟨fun x2 h2 hd => ?_, fun h2 => by cases h2⟩
    cases h2
    exact W.zret (v := i3 x) B.exec B.bytes B.returns (a_nar hbo).1 (fun t ht hW => ⟨⟨i3 x, g2, rfl, ⟨hw2, x, rfl, hkx⟩, by rw [ht]; exact hP2, va_K.moved hW.alike hK, hD2⟩, hS2.F ht⟩) hS2.2.2 hd
  have h1 := body q _ C hwf s.heap [] _ (a_L_entry q as hn) hP hD va_S.rf
  rw [lg_entry_eq]
  exact h1
set_option maxHeartbeats 4000000 in
theorem metV_of {y : MethodName} {ws ws' : List Cond} {rm : Room} {Sh : List AC} {as : List AV} {g : AG} {K : AG → Prop} {cc : ByteArray} {nL : Nat} (hy : plainName y.cls = true) (hw : ws = Cond.code y cc nL none :: ws') (hn : as.length ≤ nL)
    (body : ∀ (q : Nat → Nat) (J : JT), JR y.cls cc nL ws rm (kV q Sh K) J → J q Sh 0 0 0 (a_L0 as nL) [] g) : MetV y ws rm Sh as g K := by
  intro l D cI cB q sz hwf
  refine Met.ofW (cc := cc) (maxL := nL) (ret := none) hy hw ?_
  intro p e s m args below meth c s₁ B hml hv
  obtain ⟨hv0, hsz, hP, hK, hD0⟩ := hv
  subst hv0
  subst hsz
  have hts := atoms_spec (ws := ws) B.pre
  have hown : s.vm.findClass y.cls = some m.cls := findClass_of_methodNamed B.named
  have hlocks := B.notSynchronized
  have hD := hD0.self (sz := s.heap.size)
  have C : JR y.cls cc nL ws rm (kV q Sh K) (a_J p l e rm s m (as.map (a_v q)).toArray below meth c (va_A (a_w cI cB q g Sh) s.heap.size) D cI cB (MQ below (va_Qv (fun (g' : AG) => aW g' ∧ K g') (a_B D cI cB q Sh (va_A (a_w cI cB q g Sh) s.heap.size)) (va_A (a_w cI cB q g Sh) s.heap.size)) (as.map (a_v q)).toArray s 0 0 (va_A (a_w cI cB q g Sh) s.heap.size))) := by
    refine ⟨p, l, e, s, m, (as.map (a_v q)).toArray, below, meth, c, va_A (a_w cI cB q g Sh) s.heap.size, D, cI, cB, _, rfl, B.exec, B.bytes, hml, hown, hts, hK, fun q h => Or.inr h, ?_⟩
    intro r q2 Sh2 ce sl g2 H locs ls pc hk hw2 hP2 hD2 hS2
    obtain ⟨rfl, rfl, rfl, rfl, rfl, hkx⟩ := hk
    refine ⟨fun x2 h2 => (by cases h2), fun h2 hd => ?_⟩
    exact W.vret B.exec B.bytes B.returns (fun t ht hW => ⟨⟨g2, rfl, ⟨hw2, hkx⟩, by rw [ht]; exact hP2, va_K.moved hW.alike hK, hD2⟩, hS2.F ht⟩) hS2.2.2 hd
  have h1 := body q _ C hwf s.heap [] _ (a_L_entry q as hn) hP hD va_S.rf
  rw [lg_entry_eq]
  exact h1
/-! calls -/
def aCV (Ts : List Cond) (R : Room) (own : String) (idx : Nat) (ci : Nat) (y : MethodName) (ws : List Cond) (rm : Room) (n : Nat) : Prop := ∃ (T : u_T) (N : Nat) (bytes : ByteArray) (maxL : Nat) (ret : Option FieldType) (ws' : List Cond), vwCl[ci]? = some (y.cls, T, N) ∧ GoodIn Ts (wsV own idx y.cls y ws) ∧ ws = Cond.code y bytes maxL ret :: ws' ∧ rm.cells = 0 ∧ rm.slots = 0 ∧ (y.cls ≠ "java/lang/invoke/MethodHandle" ∧ y.cls ≠ "java/lang/invoke/VarHandle" ∧ (parseMethodDescriptor y.desc).map (fun d => d.parameters.length) = some n) ∧ (rm.frames + 1 ≤ R.frames ∧ 8 + (maxL + 11) + rm.locals ≤ R.locals)
def aCS (Ts : List Cond) (R : Room) (own : String) (idx : Nat) (y : MethodName) (ws : List Cond) (rm : Room) (n : Nat) : Prop := ∃ (bytes : ByteArray) (maxL : Nat) (ret : Option FieldType) (ws' : List Cond), GoodIn Ts (va_wsS own idx y ws) ∧ ws = Cond.code y bytes maxL ret :: ws' ∧ rm.cells = 0 ∧ rm.slots = 0 ∧ (y.cls ≠ "java/lang/invoke/MethodHandle" ∧ y.cls ≠ "java/lang/invoke/VarHandle" ∧ (parseMethodDescriptor y.desc).map (fun d => d.parameters.length) = some n) ∧ (rm.frames + 1 ≤ R.frames ∧ 8 + (maxL + 11) + rm.locals ≤ R.locals)
theorem a_blind {D : va_G} {cI cB : ClassId} {q : Nat → Nat} {Sh : List AC} {g : AG} {sz : Nat} (av : List Value) : FrameBlind (va_Pc av (a_P D cI cB q Sh g sz)) := fun a U gg mk z => by
  obtain ⟨q0, q1, qP, qK, qD⟩ := z
  exact ⟨q0, q1, qP, va_K.moved (u := U) (U := U.calling gg mk a) (Vm.Alike.refl U.vm) qK, qD⟩
theorem a_free {A : Nat → Prop} {cI cB : ClassId} {q : Nat → Nat} {g : AG} {Sh : List AC} {H0 H : Heap} {locs : List Loc} (hD : va_D A (a_w cI cB q g Sh)) (hS : va_S A H0 H locs) (hA : ∀ a, H0.size ≤ a → A a) : ∀ a, va_A (a_w cI cB q g Sh) H.size a → A a := by
  rintro a (⟨k, e, h⟩ | h)
  · exact hD.2 k _ h
  · exact hA a (Nat.le_trans hS.1 h)
section JCalls
variable {own : String} {cc : ByteArray} {nL : Nat} {Ts : List Cond} {R : Room} {K : KT} {J : JT} {q : Nat → Nat} {Sh : List AC} {ce sl pc : Nat} {L : AL} {st : List AV} {g : AG}
variable {idx ci n k0 : Nat} {y : MethodName} {ws : List Cond} {rm : Room} {as : List AV} {fs : List AF}
set_option maxHeartbeats 4000000 in
theorem j_callVi {K0 : Int → AG → Prop} (C : JR own cc nL Ts R K J) (B : aCV Ts R own idx ci y ws rm n) (hs : Sh[k0]? = some (.inl (ci, fs))) (hn : as.length = n) (hL : L.length = nL) (hst : st.length ≤ 8) (hr : ce ≤ R.cells ∧ sl ≤ R.slots) (hd : decode cc pc = .ok (.invokevirtual idx, 3)) (hM : MetI y ws rm Sh (.inr k0 :: as) g K0) (kk : (∀ (x : Int) (g' : AG), K0 x g' → J q Sh ce sl (pc + 3) L (.inl x :: st) g')) : J q Sh ce sl pc L (as.reverse ++ .inr k0 :: st) g := by
  obtain ⟨p, l, e, s, m, args, below, meth, c, A, D, cI, cB, Q, rfl, hx, hb, hml, hown, hts, hK, hA, hret⟩ := C
  intro hw H locs ls hl hP hD hS
  obtain ⟨T, N, bytes, maxL, ret, ws', b0, b1, b2, b3, b4, b5, b6⟩ := B
  have hF := a_free hD hS hA
  have hrun := va_runV (As := as.map (a_v q)) (rest := st.map (a_v q)) (g := F0 m pc ls ((as.reverse ++ Sum.inr k0 :: st).map (a_v q))) (b := q k0) (H := H) (locs := locs) (e := e) (below := below) (meth := meth) (cells := ce) (slots := sl) ⟨hx, hb, hml, hown, hts⟩ (hM l D cI cB q H.size hw) (cwV n hts b1 b2 b3 b4 ⟨rfl, b5⟩ b6) ⟨a_blind _, va_recv hK hP (q0 := k0) b0 (a_w_at hs), fun U hU hW => ⟨rfl, by rw [hU], by rw [hU]; exact hP, va_K.moved hW.alike hK, hD.weaken (fun _ _ _ _ => trivial)⟩⟩ rfl (by rw [List.length_map]; exact hn) ((a_L_size hl).trans hL) (by simp [a_v]) (lv_room (by rw [a_cats]; exact hst)) hd hr
  refine va_calli hrun hS (fun a _ h => hF a h) hF (fun r g' t H1 locs1 ht hvm hpost hB hz1 hk1 hS1 => ?_)
  obtain ⟨hw', x, rfl, hkx⟩ := hpost
  obtain ⟨hP1, hK1, hD1⟩ := hB
  rw [ht] at hP1
  exact kk x g' hkx hw' H1 locs1 ls hl hP1 (hD1.weaken (fun _ _ _ h => hF _ h)) hS1
set_option maxHeartbeats 4000000 in
theorem j_callSi {K0 : Int → AG → Prop} (C : JR own cc nL Ts R K J) (B : aCS Ts R own idx y ws rm n) (hn : as.length = n) (hL : L.length = nL) (hst : st.length ≤ 8) (hr : ce ≤ R.cells ∧ sl ≤ R.slots) (hd : decode cc pc = .ok (.invokestatic idx, 3)) (hM : MetI y ws rm Sh as g K0) (kk : (∀ (x : Int) (g' : AG), K0 x g' → J q Sh ce sl (pc + 3) L (.inl x :: st) g')) : J q Sh ce sl pc L (as.reverse ++ st) g := by
  obtain ⟨p, l, e, s, m, args, below, meth, c, A, D, cI, cB, Q, rfl, hx, hb, hml, hown, hts, hK, hA, hret⟩ := C
  intro hw H locs ls hl hP hD hS
  obtain ⟨bytes, maxL, ret, ws', b1, b2, b3, b4, b5, b6⟩ := B
  have hF := a_free hD hS hA
  have hrun := va_runS (As := as.map (a_v q)) (rest := st.map (a_v q)) (g := F0 m pc ls ((as.reverse ++ st).map (a_v q))) (H := H) (locs := locs) (e := e) (below := below) (meth := meth) (cells := ce) (slots := sl) ⟨hx, hb, hml, hown, hts⟩ (hM l D cI cB q H.size hw) (va_cwS n hts b1 b2 b3 b4 b5 b6) ⟨a_blind _, fun U hU hW => ⟨rfl, by rw [hU], by rw [hU]; exact hP, va_K.moved hW.alike hK, hD.weaken (fun _ _ _ _ => trivial)⟩⟩ rfl (by rw [List.length_map]; exact hn) ((a_L_size hl).trans hL) (by simp [a_v]) (lv_room (by rw [a_cats]; exact hst)) hd hr
  refine va_calli hrun hS (fun a _ h => hF a h) hF (fun r g' t H1 locs1 ht hvm hpost hB hz1 hk1 hS1 => ?_)
  obtain ⟨hw', x, rfl, hkx⟩ := hpost
  obtain ⟨hP1, hK1, hD1⟩ := hB
  rw [ht] at hP1
  exact kk x g' hkx hw' H1 locs1 ls hl hP1 (hD1.weaken (fun _ _ _ h => hF _ h)) hS1
set_option maxHeartbeats 4000000 in
theorem j_callVv {K0 : AG → Prop} (C : JR own cc nL Ts R K J) (B : aCV Ts R own idx ci y ws rm n) (hs : Sh[k0]? = some (.inl (ci, fs))) (hn : as.length = n) (hL : L.length = nL) (hst : st.length ≤ 8) (hr : ce ≤ R.cells ∧ sl ≤ R.slots) (hd : decode cc pc = .ok (.invokevirtual idx, 3)) (hM : MetV y ws rm Sh (.inr k0 :: as) g K0) (kk : (∀ (g' : AG), K0 g' → J q Sh ce sl (pc + 3) L st g')) : J q Sh ce sl pc L (as.reverse ++ .inr k0 :: st) g := by
  obtain ⟨p, l, e, s, m, args, below, meth, c, A, D, cI, cB, Q, rfl, hx, hb, hml, hown, hts, hK, hA, hret⟩ := C
  intro hw H locs ls hl hP hD hS
  obtain ⟨T, N, bytes, maxL, ret, ws', b0, b1, b2, b3, b4, b5, b6⟩ := B
  have hF := a_free hD hS hA
  have hrun := va_runV (As := as.map (a_v q)) (rest := st.map (a_v q)) (g := F0 m pc ls ((as.reverse ++ Sum.inr k0 :: st).map (a_v q))) (b := q k0) (H := H) (locs := locs) (e := e) (below := below) (meth := meth) (cells := ce) (slots := sl) ⟨hx, hb, hml, hown, hts⟩ (hM l D cI cB q H.size hw) (cwV n hts b1 b2 b3 b4 ⟨rfl, b5⟩ b6) ⟨a_blind _, va_recv hK hP (q0 := k0) b0 (a_w_at hs), fun U hU hW => ⟨rfl, by rw [hU], by rw [hU]; exact hP, va_K.moved hW.alike hK, hD.weaken (fun _ _ _ _ => trivial)⟩⟩ rfl (by rw [List.length_map]; exact hn) ((a_L_size hl).trans hL) (by simp [a_v]) (lv_room (by rw [a_cats]; exact hst)) hd hr
  refine va_callv hrun hS (fun a _ h => hF a h) hF (fun g' t H1 locs1 ht hvm hpost hB hz1 hk1 hS1 => ?_)
  obtain ⟨hw', hkx⟩ := hpost
  obtain ⟨hP1, hK1, hD1⟩ := hB
  rw [ht] at hP1
  exact kk g' hkx hw' H1 locs1 ls hl hP1 (hD1.weaken (fun _ _ _ h => hF _ h)) hS1
set_option maxHeartbeats 4000000 in
theorem j_callSv {K0 : AG → Prop} (C : JR own cc nL Ts R K J) (B : aCS Ts R own idx y ws rm n) (hn : as.length = n) (hL : L.length = nL) (hst : st.length ≤ 8) (hr : ce ≤ R.cells ∧ sl ≤ R.slots) (hd : decode cc pc = .ok (.invokestatic idx, 3)) (hM : MetV y ws rm Sh as g K0) (kk : (∀ (g' : AG), K0 g' → J q Sh ce sl (pc + 3) L st g')) : J q Sh ce sl pc L (as.reverse ++ st) g := by
  obtain ⟨p, l, e, s, m, args, below, meth, c, A, D, cI, cB, Q, rfl, hx, hb, hml, hown, hts, hK, hA, hret⟩ := C
  intro hw H locs ls hl hP hD hS
  obtain ⟨bytes, maxL, ret, ws', b1, b2, b3, b4, b5, b6⟩ := B
  have hF := a_free hD hS hA
  have hrun := va_runS (As := as.map (a_v q)) (rest := st.map (a_v q)) (g := F0 m pc ls ((as.reverse ++ st).map (a_v q))) (H := H) (locs := locs) (e := e) (below := below) (meth := meth) (cells := ce) (slots := sl) ⟨hx, hb, hml, hown, hts⟩ (hM l D cI cB q H.size hw) (va_cwS n hts b1 b2 b3 b4 b5 b6) ⟨a_blind _, fun U hU hW => ⟨rfl, by rw [hU], by rw [hU]; exact hP, va_K.moved hW.alike hK, hD.weaken (fun _ _ _ _ => trivial)⟩⟩ rfl (by rw [List.length_map]; exact hn) ((a_L_size hl).trans hL) (by simp [a_v]) (lv_room (by rw [a_cats]; exact hst)) hd hr
  refine va_callv hrun hS (fun a _ h => hF a h) hF (fun g' t H1 locs1 ht hvm hpost hB hz1 hk1 hS1 => ?_)
  obtain ⟨hw', hkx⟩ := hpost
  obtain ⟨hP1, hK1, hD1⟩ := hB
  rw [ht] at hP1
  exact kk g' hkx hw' H1 locs1 ls hl hP1 (hD1.weaken (fun _ _ _ h => hF _ h)) hS1
end JCalls
