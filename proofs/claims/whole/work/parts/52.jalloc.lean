/-! ===== the layer J: new cells, constructors, the law's own rows ===== -/
def okr (n k : Nat) : Bool := decide (k < n) || decide (1000 ≤ k)
def okS (n : Nat) (st : List AV) : Bool := st.all (fun v => match v with | .inl _ => true | .inr k => okr n k)
def okL (n : Nat) (L : AL) : Bool := L.all (fun v => match v with | some (.inr k) => okr n k | _ => true)
def okC (n : Nat) : AC → Bool
  | .inl o => o.2.all (fun f => match f with | some (some k) => okr n k | _ => true)
  | .inr _ => true
def extq (n : Nat) (q q' : Nat → Nat) : Prop := ∀ k, k < n ∨ 1000 ≤ k → q' k = q k
theorem okr_q {n k : Nat} {q q' : Nat → Nat} (h : extq n q q') (hk : okr n k = true) : q' k = q k := h k (by unfold okr at hk; simpa using hk)
theorem a_c_ext {cI cB : ClassId} {q q' : Nat → Nat} {g : AG} {n k : Nat} {c : AC} (h : extq n q q') (hk : k < n) (hc : okC n c = true) : a_c cI cB q' g k c = a_c cI cB q g k c := by
  have e0 : q' k = q k := h k (Or.inl hk)
  cases c with
  | inr a => simp only [a_c, e0]
  | inl o =>
    simp only [a_c, e0]
    congr 3
    apply List.ext_getElem?
    intro i
    rw [List.getElem?_mapIdx, List.getElem?_mapIdx]
    cases hf : o.2[i]? with
    | none => rfl
    | some f =>
      have hm := List.mem_of_getElem? hf
      have h2 := List.all_eq_true.mp hc f hm
      rcases f with _ | _ | k'
      · rfl
      · rfl
      · have e1 : q' k' = q k' := okr_q h h2
        simp [a_f, e1]
theorem a_w_ext {cI cB : ClassId} {q q' : Nat → Nat} {g : AG} {n : Nat} {Sh : List AC} (h : extq n q q') (hn : Sh.length ≤ n) (hc : Sh.all (okC n) = true) : a_w cI cB q' g Sh = a_w cI cB q g Sh := by
  unfold a_w
  apply List.ext_getElem?
  intro i
  rw [List.getElem?_mapIdx, List.getElem?_mapIdx]
  cases hf : Sh[i]? with
  | none => rfl
  | some c =>
    have hi : i < Sh.length := (List.getElem?_eq_some_iff.mp hf).1
    exact congrArg some (a_c_ext h (by omega) (List.all_eq_true.mp hc c (List.mem_of_getElem? hf)))
theorem a_v_ext {q q' : Nat → Nat} {n : Nat} (h : extq n q q') : ∀ (st : List AV), okS n st = true → st.map (a_v q') = st.map (a_v q)
  | [], _ => rfl
  | v :: st, hs => by
    unfold okS at hs
    rw [List.all_cons, Bool.and_eq_true] at hs
    rw [List.map_cons, List.map_cons, a_v_ext h st hs.2]
    cases v with
    | inl x => rfl
    | inr k => rw [show a_v q' (.inr k) = a_v q (.inr k) from congrArg Value.ref (okr_q h hs.1)]
theorem a_L_ext {q q' : Nat → Nat} {n : Nat} {ls : Array Slot} {L : AL} (h : extq n q q') (hL : okL n L = true) (hl : a_L q ls L) : a_L q' ls L := by
  obtain ⟨l, h1, h2⟩ := hl
  refine ⟨l, h1, fun i v hi => ?_⟩
  have h3 := List.all_eq_true.mp hL _ (List.mem_of_getElem? hi)
  have h4 := h2 i v hi
  cases v with
  | inl x => exact h4
  | inr k =>
    rw [show a_v q' (.inr k) = a_v q (.inr k) from congrArg Value.ref (okr_q h h3)]
    exact h4
theorem a_w_app (cI cB : ClassId) (q : Nat → Nat) (g : AG) (Sh : List AC) (c : AC) : a_w cI cB q g (Sh ++ [c]) = a_w cI cB q g Sh ++ [a_c cI cB q g Sh.length c] := by
  unfold a_w
  rw [List.mapIdx_append]
  congr 1
  simp
theorem a_c_set {cI cB : ClassId} {q : Nat → Nat} {g : AG} {k j k' : Nat} {ci : Nat} {fs : List AF} (hj : j < fs.length) : a_c cI cB q g k (.inl (ci, fs.set j (some (some k')))) = (q k, .inr (ci, (fs.mapIdx (fun j f => a_f q g k j f)).set j (.ref (q k')))) := by
  simp only [a_c]
  congr 3
  apply List.ext_getElem?
  intro i
  by_cases hi : i = j
  · subst hi
    rw [List.getElem?_set_self (by simpa using hj), List.getElem?_mapIdx, List.getElem?_set_self hj]
    rfl
  · rw [List.getElem?_set_ne (Ne.symm hi), List.getElem?_mapIdx, List.getElem?_mapIdx, List.getElem?_set_ne (Ne.symm hi)]
theorem a_w_set {cI cB : ClassId} {q : Nat → Nat} {g : AG} {Sh : List AC} {k : Nat} {c : AC} (hk : k < Sh.length) : (a_w cI cB q g Sh).set k (a_c cI cB q g k c) = a_w cI cB q g (Sh.set k c) := by
  apply List.ext_getElem?
  intro i
  by_cases hi : i = k
  · subst hi
    rw [List.getElem?_set_self (by rw [a_w_len]; exact hk)]
    unfold a_w
    rw [List.getElem?_mapIdx, List.getElem?_set_self hk]
    rfl
  · rw [List.getElem?_set_ne (Ne.symm hi)]
    unfold a_w
    rw [List.getElem?_mapIdx, List.getElem?_mapIdx, List.getElem?_set_ne (Ne.symm hi)]
/-- a constructor's own context -/
def JRI (own : String) (cc : ByteArray) (nL : Nat) (Ts : List Cond) (R : Room) (K : KT) (J : JT) : Prop :=
  ∃ (p : Program) (l : Launch) (e : Env) (s : State) (m : MethodId) (args : Array Value) (below : List Frame) (meth : Method) (c : Code) (A : Nat → Prop) (D : va_G) (cI cB : ClassId) (Q : State → Prop),
    meth.name = "<init>" ∧ J = a_J p l e R s m args below meth c A D cI cB Q ∧ p.tables.exec = Jvm.exec ∧ c.code = cc ∧ c.maxLocals = nL ∧ s.vm.findClass own = some m.cls ∧ (∀ w ∈ Ts, w.before args s = true) ∧ va_K D vwCl (a_t cI cB) s ∧ (∀ q, s.heap.size ≤ q → A q) ∧
    ∀ (r : Option Int) (q : Nat → Nat) (Sh : List AC) (ce sl : Nat) (g : AG) (H : Heap) (locs : List Loc) (ls : Array Slot) (pc : Nat), K r q Sh ce sl g → aW g → va_P D vwCl (a_w cI cB q g Sh) H → va_D A (a_w cI cB q g Sh) → va_S A s.heap H locs →
      (∀ x, r = some x → decode cc pc = .ok (.ireturn, 1) → W p l e R s m args below meth c H locs ce sl Q (F0 m pc ls [.int (i3 x)])) ∧ (r = none → decode cc pc = .ok (.return_, 1) → W p l e R s m args below meth c H locs ce sl Q (F0 m pc ls []))
theorem JRI.jr {own : String} {cc : ByteArray} {nL : Nat} {Ts : List Cond} {R : Room} {K : KT} {J : JT} (C : JRI own cc nL Ts R K J) : JR own cc nL Ts R K J := by
  obtain ⟨p, l, e, s, m, args, below, meth, c, A, D, cI, cB, Q, -, h⟩ := C
  exact ⟨p, l, e, s, m, args, below, meth, c, A, D, cI, cB, Q, h⟩
def aFF (Ts : List Cond) (own : String) (idx ci j : Nat) : Prop := ∃ (C : String) (T : u_T) (N : Nat) (ty : Nat → FieldType), vwCl[ci]? = some (C, T, N) ∧ (∀ w ∈ u_ws C T N, w ∈ Ts) ∧ (∀ k, k < N → parseFieldDescriptor (T k).2.2.1 = some (ty k)) ∧ (∀ a, a < N → ∀ b, b < N → a ≠ b → (T a).2.1 ≠ (T b).2.1) ∧ j < N ∧ Cond.fieldLink own idx (T j).1 (T j).2.1 (T j).2.2.1 ∈ Ts ∧ (T j).2.2.2 = true ∧ (T j).1 = own ∧ ∀ a, narrow (ty j) (.ref a) = .ref a ∧ fits (ty j) (.ref a) = true
def aNW (Ts : List Cond) (own : String) (idx ci : Nat) (fs : List AF) : Prop := ∃ (C : String) (T : u_T) (N : Nat) (ty : Nat → FieldType), vwCl[ci]? = some (C, T, N) ∧ (∀ w ∈ u_ws C T N, w ∈ Ts) ∧ (∀ k, k < N → parseFieldDescriptor (T k).2.2.1 = some (ty k)) ∧ Cond.classLink own idx C ∈ Ts ∧ Cond.instantiable C N ∈ Ts ∧ Cond.initialized C ∈ Ts ∧ N = fs.length ∧ ∀ j, j < N → (fs[j]? = some none ∧ defaultValue (ty j) = .int 0) ∨ (fs[j]? = some (some none) ∧ defaultValue (ty j) = .null)
section JAlloc
variable {own : String} {cc : ByteArray} {nL : Nat} {Ts : List Cond} {R : Room} {K : KT} {J : JT} {q : Nat → Nat} {Sh : List AC} {ce sl pc : Nat} {L : AL} {st : List AV} {g : AG}
theorem j_oinit (C : JR own cc nL Ts R K J) {idx k9 : Nat} (h1 : Cond.methodLink own idx objectInit ∈ Ts) (h2 : Cond.instanceMethod objectInit ∈ Ts) (h3 : Cond.code objectInit ⟨#[0xb1]⟩ 1 none ∈ Ts) (hL : L.length = nL) (hr : 1 ≤ R.frames ∧ st.length + 12 ≤ R.locals) (hd : decode cc pc = .ok (.invokespecial idx, 3)) (k : J q Sh ce sl (pc + 3) L st g) : J q Sh ce sl pc L (.inr k9 :: st) g := by
  obtain ⟨p, l, e, s, m, args, below, meth, c, A, D, cI, cB, Q, rfl, hx, hb, hml, hown, hts, hK, hA, hret⟩ := C
  intro hw H locs ls hl hP hD hS
  refine W.objInit hx hb hown (hts _ h1) (hts _ h2) (hts _ h3) (g := F0 m pc ls ((Sum.inr k9 :: st : List AV).map (a_v q))) (a := q k9) (rest := st.map (a_v q)) rfl (by rw [hml]; exact (a_L_size hl).trans hL) rfl hd hr.1 (by rw [a_cats]; show 2 * 0 + _ + 12 ≤ _; omega) ?_
  exact k hw H locs ls hl hP hD hS
theorem j_newa (C : JR own cc nL Ts R K J) (b : Bool) {at9 : ArrayType} {N : Nat} (hty : newarray.typeOf at9 = if b then .boolean else .int) (hw9 : Cond.arrayClass (newarray.typeOf at9) ∈ Ts) (hN : N ≤ 20000) (hz : ∀ j, g Sh.length j = 0) (ho : Sh.all (okC Sh.length) = true) (hoL : okL Sh.length L = true) (hoS : okS Sh.length st = true) (hn9 : Sh.length < 1000) (hr : ce + 1 ≤ R.cells ∧ sl + N ≤ R.slots) (hd : decode cc pc = .ok (.newarray at9, 2)) (kk : ∀ q', extq Sh.length q q' → J q' (Sh ++ [.inr (b, N)]) (ce + 1) (sl + N) (pc + 2) L (.inr Sh.length :: st) g) : J q Sh ce sl pc L (.inl (N : Int) :: st) g := by
  obtain ⟨p, l, e, s, m, args, below, meth, c, A, D, cI, cB, Q, rfl, hx, hb, hml, hown, hts, hK, hA, hret⟩ := C
  intro hw H locs ls hl hP hD hS
  have e1 : ¬ i3 (N : Int) < 0 := by
    rw [← i3_0, i3_lt ⟨by omega, by omega⟩ aR_0]
    omega
  have e2 : (i3 (N : Int)).toNatClampNeg = N := by
    show ((i3 (N : Int)).toInt).toNat = N
    rw [i3_toInt ⟨by omega, by omega⟩]
    omega
  have eg : (fun j => i3 (g Sh.length j)) = fun _ => (0 : Int32) := by
    funext j
    rw [hz j]
    exact i3_0
  have hcb : ∀ ty : FieldType, ty = .boolean ∨ ty = .int → N * componentBytes ty ≤ 536870912 := by
    intro ty h
    rcases h with rfl | rfl
    · have : componentBytes .boolean ≤ 8 := by decide
      exact Nat.le_trans (Nat.mul_le_mul_left N this) (by omega)
    · have : componentBytes .int ≤ 8 := by decide
      exact Nat.le_trans (Nat.mul_le_mul_left N this) (by omega)
  refine va_newa (D := D) (cl := vwCl) (ty := if b then .boolean else .int) (N' := N) (a0 := (N, .inl (fun j => i3 (g Sh.length j)))) hx hb (hts _ hw9) hty hK hP hD hS hA ?_ e1 e2 (hcb _ (by cases b <;> simp)) hr.1 hr.2 hd (fun a cA H1 hK1 hP1 hD1 hS1 => ?_)
  · intro cA
    rw [vp_cell_i]
    cases b with
    | false =>
      congr 1
      funext j
      rw [show i3 (g Sh.length j) = 0 from congrFun eg j]
      rfl
    | true =>
      congr 1
      funext j
      rw [show i3 (g Sh.length j) = 0 from congrFun eg j]
      rfl
  · have hcA : cA = (if b then cB else cI) := by
      have h1 := (hK1.2 2 (cA, if b then .boolean else .int) rfl).2
      cases b with
      | false =>
        have h2 := (hK.2 0 (cI, .int) rfl).2
        exact Option.some.inj ((show s.vm.findClass _ = some cA from h1).symm.trans (show s.vm.findClass _ = some cI from h2))
      | true =>
        have h2 := (hK.2 1 (cB, .boolean) rfl).2
        exact Option.some.inj ((show s.vm.findClass _ = some cA from h1).symm.trans (show s.vm.findClass _ = some cB from h2))
    subst hcA
    have hq : extq Sh.length q (fun k => if k = Sh.length then a else q k) := fun k hk => by
      dsimp only
      rw [if_neg (by omega)]
    have ew : a_w cI cB q g Sh ++ [(a, Sum.inl ((if b then cB else cI), N, Sum.inl (fun j => i3 (g Sh.length j))))] = a_w cI cB (fun k => if k = Sh.length then a else q k) g (Sh ++ [.inr (b, N)]) := by
      rw [a_w_app, a_w_ext hq (Nat.le_refl _) ho]
      congr 1
      simp only [a_c]
      rw [if_pos trivial]
    rw [ew] at hP1 hD1
    have h9 := kk _ hq hw H1 locs ls (a_L_ext hq hoL hl) hP1 hD1 hS1
    rw [List.map_cons, a_v_ext hq st hoS] at h9
    have e9 : a_v (fun k => if k = Sh.length then a else q k) (.inr Sh.length) = .ref a := by
      show Value.ref (if Sh.length = Sh.length then a else q Sh.length) = .ref a
      rw [if_pos rfl]
    rw [e9] at h9
    exact h9
theorem j_new (C : JR own cc nL Ts R K J) {idx ci : Nat} (fs : List AF) (F : aNW Ts own idx ci fs) (hz : ∀ j, g Sh.length j = 0) (ho : Sh.all (okC Sh.length) = true) (hoL : okL Sh.length L = true) (hoS : okS Sh.length st = true) (hn9 : Sh.length < 1000) (hr : ce + 1 ≤ R.cells ∧ sl + fs.length ≤ R.slots) (hd : decode cc pc = .ok (.new idx, 3)) (kk : ∀ q', extq Sh.length q q' → J q' (Sh ++ [.inl (ci, fs)]) (ce + 1) (sl + fs.length) (pc + 3) L (.inr Sh.length :: st) g) : J q Sh ce sl pc L st g := by
  obtain ⟨p, l, e, s, m, args, below, meth, c, A, D, cI, cB, Q, rfl, hx, hb, hml, hown, hts, hK, hA, hret⟩ := C
  intro hw H locs ls hl hP hD hS
  obtain ⟨Cn, T, N, ty, f1, f2, f3, f4, f5, f6, f7, f8⟩ := F
  subst f7
  refine va_new (D := D) (cl := vwCl) (fs := fs.mapIdx (fun j f => a_f q g Sh.length j f)) hx hb hts f2 ty f3 hown (hts _ f4) (hts _ f5) (hts _ f6) hK hP hD hS hA f1 ?_ hr.1 hr.2 hd (fun a H1 hP1 hD1 hS1 => ?_)
  · intro j hj
    unfold vp_V
    rw [List.getD_eq_getElem?_getD, List.getElem?_mapIdx]
    rcases f8 j hj with ⟨h1, h2⟩ | ⟨h1, h2⟩
    · rw [h1, h2]
      show Value.int 0 = Value.int (i3 (g Sh.length j))
      rw [hz j, i3_0]
    · rw [h1, h2]
      rfl
  · have hq : extq Sh.length q (fun k => if k = Sh.length then a else q k) := fun k hk => by
      dsimp only
      rw [if_neg (by omega)]
    have ef : fs.mapIdx (fun j f => a_f q g Sh.length j f) = fs.mapIdx (fun j f => a_f (fun k => if k = Sh.length then a else q k) g Sh.length j f) := by
      apply List.ext_getElem?
      intro j
      rw [List.getElem?_mapIdx, List.getElem?_mapIdx]
      by_cases hj : j < fs.length
      · rcases f8 j hj with ⟨h1, -⟩ | ⟨h1, -⟩
        · rw [h1]; rfl
        · rw [h1]; rfl
      · rw [List.getElem?_eq_none (by omega)]
        rfl
    have ew : a_w cI cB q g Sh ++ [(a, Sum.inr (ci, fs.mapIdx (fun j f => a_f q g Sh.length j f)))] = a_w cI cB (fun k => if k = Sh.length then a else q k) g (Sh ++ [.inl (ci, fs)]) := by
      rw [a_w_app, a_w_ext hq (Nat.le_refl _) ho, ef]
      congr 1
      simp only [a_c]
      rw [if_pos trivial]
    rw [ew] at hP1 hD1
    have h9 := kk _ hq hw H1 locs ls (a_L_ext hq hoL hl) hP1 hD1 hS1
    rw [List.map_cons, a_v_ext hq st hoS] at h9
    have e9 : a_v (fun k => if k = Sh.length then a else q k) (.inr Sh.length) = .ref a := by
      show Value.ref (if Sh.length = Sh.length then a else q Sh.length) = .ref a
      rw [if_pos rfl]
    rw [e9] at h9
    exact h9
theorem j_putF (C : JRI own cc nL Ts R K J) {idx ci j k k' : Nat} {fs : List AF} (F : aFF Ts own idx ci j) (hs : Sh[k]? = some (.inl (ci, fs))) (hj : j < fs.length) (hd : decode cc pc = .ok (.putfield idx, 3)) (kk : J q (Sh.set k (.inl (ci, fs.set j (some (some k'))))) ce sl (pc + 3) L st g) : J q Sh ce sl pc L (.inr k' :: .inr k :: st) g := by
  obtain ⟨p, l, e, s, m, args, below, meth, c, A, D, cI, cB, Q, hin, rfl, hx, hb, hml, hown, hts, hK, hA, hret⟩ := C
  intro hw H locs ls hl hP hD hS
  obtain ⟨Cn, T, N, ty, f1, f2, f3, f4, f5, f6, f7, f8, f9⟩ := F
  have hk : k < Sh.length := (List.getElem?_eq_some_iff.mp hs).1
  refine va_putF (D := D) (cl := vwCl) (v := .ref (q k')) (ty := ty j) hx hb hts f2 ty f3 f4 hown hK hP hD hS k (a_w_at hs) f1 j f5 (hts _ f6) (fun _ h => h) f7 hin f8 (f3 j f5) (f9 _).1 (f9 _).2 (by simpa using hj) hd (fun H1 locs1 hP1 hD1 hS1 => ?_)
  have e9 := a_w_set (cI := cI) (cB := cB) (q := q) (g := g) (c := .inl (ci, fs.set j (some (some k')))) hk
  rw [a_c_set hj] at e9
  rw [e9] at hP1 hD1
  exact kk hw H1 locs1 ls hl hP1 hD1 hS1
end JAlloc
/-! constructors' contracts -/
def MetN (y : MethodName) (ws : List Cond) (rm : Room) (Sh : List AC) (as : List AV) (g : AG) (Sh' : List AC) (mc ms : Nat) (K : AG → Prop) : Prop := ∀ (l : Launch) (D : va_G) (cI cB : ClassId) (q : Nat → Nat) (sz : Nat), aW g → Met l y ws rm (va_Pc (as.map (a_v q)) (a_P D cI cB q Sh g sz)) (va_Qv (fun (u : (Nat → Nat) × AG) => extq Sh.length q u.1 ∧ aW u.2 ∧ K u.2) (fun u t => a_B D cI cB u.1 Sh' (va_A (a_w cI cB q g Sh) sz) u.2 t) (va_A (a_w cI cB q g Sh) sz)) mc ms (va_A (a_w cI cB q g Sh) sz)
def kN (q0 : Nat → Nat) (n : Nat) (Sh' : List AC) (mc ms : Nat) (K : AG → Prop) : KT := fun r q Sh ce sl g => extq n q0 q ∧ Sh = Sh' ∧ ce = mc ∧ sl = ms ∧ r = none ∧ K g
set_option maxHeartbeats 4000000 in
theorem metN_of {y : MethodName} {ws ws' : List Cond} {rm : Room} {Sh Sh' : List AC} {mc ms : Nat} {as : List AV} {g : AG} {K : AG → Prop} {cc : ByteArray} {nL : Nat} (hy : plainName y.cls = true) (hyn : y.name = "<init>") (hw : ws = Cond.code y cc nL none :: ws') (hn : as.length ≤ nL)
    (body : ∀ (q : Nat → Nat) (J : JT), JRI y.cls cc nL ws rm (kN q Sh.length Sh' mc ms K) J → J q Sh 0 0 0 (a_L0 as nL) [] g) : MetN y ws rm Sh as g Sh' mc ms K := by
  intro l D cI cB q sz hwf
  refine Met.ofW (cc := cc) (maxL := nL) (ret := none) hy hw ?_
  intro p e s m args below meth c s₁ B hml hv
  obtain ⟨hv0, hsz, hP, hK, hD0⟩ := hv
  subst hv0
  subst hsz
  have hts := atoms_spec (ws := ws) B.pre
  have hown : s.vm.findClass y.cls = some m.cls := findClass_of_methodNamed B.named
  have hlocks := B.notSynchronized
  have hin : meth.name = "<init>" := ((name_of_methodNamed B.named B.method).1).trans hyn
  have hD := hD0.self (sz := s.heap.size)
  have C : JRI y.cls cc nL ws rm (kN q Sh.length Sh' mc ms K) (a_J p l e rm s m (as.map (a_v q)).toArray below meth c (va_A (a_w cI cB q g Sh) s.heap.size) D cI cB (MQ below (va_Qv (fun (u : (Nat → Nat) × AG) => extq Sh.length q u.1 ∧ aW u.2 ∧ K u.2) (fun u t => a_B D cI cB u.1 Sh' (va_A (a_w cI cB q g Sh) s.heap.size) u.2 t) (va_A (a_w cI cB q g Sh) s.heap.size)) (as.map (a_v q)).toArray s mc ms (va_A (a_w cI cB q g Sh) s.heap.size))) := by
    refine ⟨p, l, e, s, m, (as.map (a_v q)).toArray, below, meth, c, va_A (a_w cI cB q g Sh) s.heap.size, D, cI, cB, _, hin, rfl, B.exec, B.bytes, hml, hown, hts, hK, fun q h => Or.inr h, ?_⟩
    intro r q2 Sh2 ce sl g2 H locs ls pc hk hw2 hP2 hD2 hS2
    obtain ⟨hq2, rfl, rfl, rfl, rfl, hkx⟩ := hk
    refine ⟨fun x2 h2 => (by cases h2), fun h2 hd => ?_⟩
    exact W.vret B.exec B.bytes B.returns (fun t ht hW => ⟨⟨(q2, g2), rfl, ⟨hq2, hw2, hkx⟩, by rw [ht]; exact hP2, va_K.moved hW.alike hK, hD2⟩, hS2.F ht⟩) hS2.2.2 hd
  have h1 := body q _ C hwf s.heap [] _ (a_L_entry q as hn) hP hD va_S.rf
  rw [lg_entry_eq]
  exact h1
def aCI (Ts : List Cond) (R : Room) (own : String) (idx : Nat) (y : MethodName) (ws : List Cond) (rm : Room) (mc ms n : Nat) : Prop := ∃ (bytes : ByteArray) (maxL : Nat) (ws' : List Cond), GoodIn Ts ws ∧ ws = Cond.code y bytes maxL none :: ws' ∧ rm.cells = mc ∧ rm.slots = ms ∧ Cond.initialized y.cls ∈ Ts ∧ Cond.methodLink own idx y ∈ Ts ∧ Cond.instanceMethod y ∈ Ts ∧ y.name = "<init>" ∧ (y.cls ≠ "java/lang/invoke/MethodHandle" ∧ y.cls ≠ "java/lang/invoke/VarHandle" ∧ (parseMethodDescriptor y.desc).map (fun d => d.parameters.length) = some n) ∧ (rm.frames + 1 ≤ R.frames ∧ 8 + (maxL + 11) + rm.locals ≤ R.locals)
section JCallN
variable {own : String} {cc : ByteArray} {nL : Nat} {Ts : List Cond} {R : Room} {K : KT} {J : JT} {q : Nat → Nat} {Sh Sh' : List AC} {ce sl pc : Nat} {L : AL} {st : List AV} {g : AG}
set_option maxHeartbeats 4000000 in
theorem j_callN {K0 : AG → Prop} {idx n k0 mc ms : Nat} {y : MethodName} {ws : List Cond} {rm : Room} (as : List AV) (C : JR own cc nL Ts R K J) (B : aCI Ts R own idx y ws rm mc ms n) (hn : as.length = n) (hL : L.length = nL) (hst : st.length ≤ 8) (hoL : okL Sh.length L = true) (hoS : okS Sh.length st = true) (hr : ce + mc ≤ R.cells ∧ sl + ms ≤ R.slots) (hd : decode cc pc = .ok (.invokespecial idx, 3)) (hM : MetN y ws rm Sh (.inr k0 :: as) g Sh' mc ms K0) (kk : ∀ (q' : Nat → Nat) (g' : AG), extq Sh.length q q' → K0 g' → J q' Sh' (ce + mc) (sl + ms) (pc + 3) L st g') : J q Sh ce sl pc L (as.reverse ++ .inr k0 :: st) g := by
  obtain ⟨p, l, e, s, m, args, below, meth, c, A, D, cI, cB, Q, rfl, hx, hb, hml, hown, hts, hK, hA, hret⟩ := C
  intro hw H locs ls hl hP hD hS
  obtain ⟨bytes, maxL, ws', b1, b2, b3, b4, b5, b6, b7, b8, b9, b10⟩ := B
  have hF := a_free hD hS hA
  have hrun := va_runI (As := as.map (a_v q)) (rest := st.map (a_v q)) (g := F0 m pc ls ((as.reverse ++ Sum.inr k0 :: st).map (a_v q))) (b := q k0) (H := H) (locs := locs) (e := e) (below := below) (meth := meth) (cells := ce) (slots := sl) ⟨hx, hb, hml, hown, hts⟩ (hM l D cI cB q H.size hw) (cwI n hts b1 b2 b3 b4 (hts _ b5) (hts _ b6) (hts _ b7) b8 b9 b10) ⟨a_blind _, fun U hU hW => ⟨rfl, by rw [hU], by rw [hU]; exact hP, va_K.moved hW.alike hK, hD.weaken (fun _ _ _ _ => trivial)⟩⟩ rfl (by rw [List.length_map]; exact hn) ((a_L_size hl).trans hL) (by simp [a_v]) (lv_room (by rw [a_cats]; exact hst)) hd hr
  refine va_callv hrun hS (fun a _ h => hF a h) hF (fun u t H1 locs1 ht hvm hpost hB hz1 hk1 hS1 => ?_)
  obtain ⟨hq, hw', hkx⟩ := hpost
  obtain ⟨hP1, hK1, hD1⟩ := hB
  rw [ht] at hP1
  have h9 := kk u.1 u.2 hq hkx hw' H1 locs1 ls (a_L_ext hq hoL hl) hP1 (hD1.weaken (fun _ _ _ h => hF _ h)) hS1
  rw [a_v_ext hq st hoS] at h9
  exact h9
end JCallN
