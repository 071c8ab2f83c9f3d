/-! ===== pure words: the cut ===== -/
def cutD (k0 c : Nat) (Li : Nat → Prop) (cd : Nat → Int) (w1 m ch : Int) : Prop :=
  w1 ≤ m ∧ (∀ j, k0 ≤ j → j < c → Li j → cd j ≤ m) ∧ ((ch = -6 ∧ m = w1 ∧ ∀ j, k0 ≤ j → j < c → Li j → cd j < m) ∨ ∃ c0 : Nat, ch = c0 ∧ k0 ≤ c0 ∧ c0 < c ∧ Li c0 ∧ cd c0 = m ∧ ∀ j, k0 ≤ j → j < c0 → Li j → cd j < m)
theorem cutD_one {k0 c : Nat} {Li : Nat → Prop} {cd cd' : Nat → Int} {w1 m ch m' ch' : Int} (hc : ∀ j, k0 ≤ j → j < c → Li j → cd j = cd' j) (h : cutD k0 c Li cd w1 m ch) (h' : cutD k0 c Li cd' w1 m' ch') : m = m' ∧ ch = ch' := by
  obtain ⟨a1, a2, a3⟩ := h
  obtain ⟨b1, b2, b3⟩ := h'
  rcases a3 with ⟨e1, e2, e3⟩ | ⟨i, e1, e2, e3, e4, e5, e6⟩ <;> rcases b3 with ⟨f1, f2, f3⟩ | ⟨j, f1, f2, f3, f4, f5, f6⟩
  · exact ⟨by omega, by omega⟩
  · have := e3 j f2 f3 f4
    have := hc j f2 f3 f4
    omega
  · have := f3 i e2 e3 e4
    have := hc i e2 e3 e4
    omega
  · have g1 := a2 j f2 f3 f4
    have g2 := hc j f2 f3 f4
    have g3 := b2 i e2 e3 e4
    have g4 := hc i e2 e3 e4
    have em : m = m' := by omega
    refine ⟨em, ?_⟩
    rcases Nat.lt_trichotomy i j with q | q | q
    · have := f6 i e2 q e4
      omega
    · subst q; omega
    · have := e6 j f2 q f4
      omega
theorem cutD_cong {k0 c : Nat} {Li : Nat → Prop} {cd cd' : Nat → Int} {w1 m ch : Int} (hc : ∀ j, k0 ≤ j → j < c → Li j → cd j = cd' j) (h : cutD k0 c Li cd w1 m ch) : cutD k0 c Li cd' w1 m ch := by
  obtain ⟨a1, a2, a3⟩ := h
  refine ⟨a1, fun j q1 q2 q3 => by rw [← hc j q1 q2 q3]; exact a2 j q1 q2 q3, ?_⟩
  rcases a3 with ⟨e1, e2, e3⟩ | ⟨i, e1, e2, e3, e4, e5, e6⟩
  · exact Or.inl ⟨e1, e2, fun j q1 q2 q3 => by rw [← hc j q1 q2 q3]; exact e3 j q1 q2 q3⟩
  · exact Or.inr ⟨i, e1, e2, e3, e4, by rw [← hc i e2 e3 e4]; exact e5, fun j q1 q2 q3 => by rw [← hc j q1 (by omega) q3]; exact e6 j q1 q2 q3⟩
/-- the cut's row at a place: worth m, begun kind ch -/
def cutR (n : Int) (c : Nat) (Wd Pr Bo : Nat → Int) (sz : Int → Int) (A : Nat → Int) (p : Nat) (m ch : Int) : Prop := cutD 0 c (fun k => lieP (Wd k) (Bo k) n sz (p : Int)) (fun k => Pr k + A ((p : Int) + Wd k).toNat) (A (p + 1)) m ch
def cutT (n : Int) (c : Nat) (Wd Pr Bo : Nat → Int) (sz : Int → Int) (A B : Nat → Int) : Prop := A n.toNat = 0 ∧ ∀ p : Nat, (p : Int) < n → cutR n c Wd Pr Bo sz A p (A p) (B p)
theorem cutT_one {n : Int} {c : Nat} {Wd Pr Bo : Nat → Int} {sz : Int → Int} {A B A' B' : Nat → Int} (hw : ∀ k, k < c → 1 ≤ Wd k) (h : cutT n c Wd Pr Bo sz A B) (h' : cutT n c Wd Pr Bo sz A' B') : ∀ d p : Nat, (p : Int) + d = n → A p = A' p ∧ (0 < d → B p = B' p) := by
  refine byN _ (fun d ih p hp => ?_)
  by_cases h0 : d = 0
  · subst h0
    have e : p = n.toNat := by omega
    rw [e, h.1, h'.1]
    exact ⟨rfl, fun h => absurd h (by omega)⟩
  · have r1 := h.2 p (by omega)
    have r2 := h'.2 p (by omega)
    unfold cutR at r1 r2
    have e1 := (ih (d - 1) (by omega) (p + 1) (by omega)).1
    rw [e1] at r1
    have r3 := cutD_one (fun j _ q2 q3 => ?_) r1 r2
    · exact ⟨r3.1, fun _ => r3.2⟩
    · have q4 := hw j q2
      have q5 := q3.1
      have e2 := (ih (n - (p + Wd j)).toNat (by omega) ((p : Int) + Wd j).toNat (by omega)).1
      show Pr j + _ = Pr j + _
      rw [e2]
def frU (B Wd : Nat → Int) : Nat → Int
  | 0 => 0
  | p + 1 => if (p : Int) < frU B Wd p then frU B Wd p else if B p = -6 then frU B Wd p else p + Wd (B p).toNat
def drU (B Wd : Nat → Int) (n : Nat) : Nat → Int := fun j => if j < n ∧ (j : Int) < frU B Wd j then -6 else B j
theorem drU_0 (B Wd : Nat → Int) : drU B Wd 0 = B := by funext j; simp [drU]
theorem drU_at (B Wd : Nat → Int) (n : Nat) : drU B Wd n n = B n := by simp [drU]
theorem drU_y {B Wd : Nat → Int} {n : Nat} (h : (n : Int) < frU B Wd n) : drU B Wd (n + 1) = fun j => if j = n then -6 else drU B Wd n j := by
  funext j
  unfold drU
  by_cases e : j = n
  · subst e; simp [h]
  · have : j < n + 1 ↔ j < n := by omega
    simp [this, e]
theorem drU_n {B Wd : Nat → Int} {n : Nat} (h : ¬ (n : Int) < frU B Wd n) : drU B Wd (n + 1) = drU B Wd n := by
  funext j
  unfold drU
  by_cases e : j = n
  · subst e; simp [h]
  · have : j < n + 1 ↔ j < n := by omega
    simp [this]
theorem frU_b {B Wd : Nat → Int} (hW : ∀ j, 0 ≤ Wd j ∧ Wd j ≤ 24) : ∀ n : Nat, n ≤ 24 → 0 ≤ frU B Wd n ∧ frU B Wd n ≤ 48
  | 0, _ => by simp [frU]
  | n + 1, h => by
    have ih := frU_b (B := B) hW n (by omega)
    have h2 := hW (B n).toNat
    unfold frU
    split
    · exact ih
    · split
      · exact ih
      · omega
/-- behind a set that begins at p, all up to its end are covered -/
theorem frU_in {B Wd : Nat → Int} {p : Nat} (h1 : ¬ (p : Int) < frU B Wd p) (h2 : ¬ B p = -6) : ∀ d : Nat, (d : Int) < Wd (B p).toNat → frU B Wd (p + d + 1) = p + Wd (B p).toNat
  | 0, h => by
    show frU B Wd (p + 1) = _
    unfold frU
    rw [if_neg h1, if_neg h2]
  | d + 1, h => by
    have ih := frU_in h1 h2 d (by omega)
    show frU B Wd ((p + d + 1) + 1) = _
    unfold frU
    rw [if_pos (by rw [ih]; omega), ih]
