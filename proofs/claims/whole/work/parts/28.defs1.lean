/-! ===== pure words: rows of the state, the eye ===== -/
theorem byN (P : Nat → Prop) (h : ∀ n, (∀ m, m < n → P m) → P n) : ∀ n, P n := fun n => Nat.strongRecOn n h
def row (g : AG) (k : Nat) (f : Nat → Int) : AG := fun k' => if k' = k then f else g k'
theorem row_s (g : AG) (k : Nat) (f : Nat → Int) : row g k f k = f := by simp [row]
theorem row_n (g : AG) {k k' : Nat} (f : Nat → Int) (h : k' ≠ k) : row g k f k' = g k' := by simp [row, h]
theorem row_id (g : AG) (k : Nat) : row g k (g k) = g := by
  funext k'
  by_cases h : k' = k
  · subst h; rw [row_s]
  · rw [row_n _ _ h]
theorem aset_id (g : AG) (k j : Nat) : aset g k j (g k j) = g := by
  funext k' j'
  unfold aset
  split
  · rename_i h; rw [h.1, h.2]
  · rfl
theorem aset_row (g : AG) (k j : Nat) (v : Int) : aset g k j v = row g k (fun j' => if j' = j then v else g k j') := by
  funext k' j'
  unfold aset row
  by_cases h : k' = k
  · subst h; by_cases h2 : j' = j <;> simp [h2]
  · simp [h]
theorem aset_kn (g : AG) {k k' : Nat} (j : Nat) (v : Int) (h : k' ≠ k) : aset g k j v k' = g k' := by rw [aset_row, row_n _ _ h]
def fillU (f : Nat → Int) (n : Nat) (h : Nat → Int) : Nat → Int := fun j => if j < n then h j else f j
/-- knots joined: the group of b goes into that of a -/
def fitU (G : Nat → Int) (a b n : Nat) : Nat → Int := fun k => if k < n ∧ G k = G b then G a else G k
def fitV (G H : Nat → Int) (a b : Nat) (v : Int) (n : Nat) : Nat → Int := fun k => if k < n ∧ G k = G b then nrm (H k + (H a - v - H b)) else H k
def fitH (G H : Nat → Int) (a b : Nat) (v : Int) : Nat → Int := if G a = G b then H else fitV G H a b v 64
theorem fitU_same {G : Nat → Int} {a b : Nat} (h : G a = G b) (n : Nat) : fitU G a b n = G := by
  funext k
  unfold fitU
  split
  · rename_i h2; rw [h, h2.2]
  · rfl
theorem fitU_0 (G : Nat → Int) (a b : Nat) : fitU G a b 0 = G := by funext k; simp [fitU]
theorem fitV_0 (G H : Nat → Int) (a b : Nat) (v : Int) : fitV G H a b v 0 = H := by funext k; simp [fitV]
theorem fitU_y {G : Nat → Int} {a b n : Nat} (h : G n = G b) : fitU G a b (n + 1) = fun j => if j = n then G a else fitU G a b n j := by
  funext j
  unfold fitU
  by_cases h1 : j = n
  · subst h1; simp [h]
  · have : j < n + 1 ↔ j < n := by omega
    simp [h1, this]
theorem fitU_n {G : Nat → Int} {a b n : Nat} (h : ¬ G n = G b) : fitU G a b (n + 1) = fitU G a b n := by
  funext j
  unfold fitU
  by_cases h1 : j = n
  · subst h1; simp [h]
  · have : j < n + 1 ↔ j < n := by omega
    simp [this]
theorem fitV_y {G H : Nat → Int} {a b n : Nat} {v : Int} (h : G n = G b) : fitV G H a b v (n + 1) = fun j => if j = n then nrm (H n + (H a - v - H b)) else fitV G H a b v n j := by
  funext j
  unfold fitV
  by_cases h1 : j = n
  · subst h1; simp [h]
  · have : j < n + 1 ↔ j < n := by omega
    simp [h1, this]
theorem fitV_n {G H : Nat → Int} {a b n : Nat} {v : Int} (h : ¬ G n = G b) : fitV G H a b v (n + 1) = fitV G H a b v n := by
  funext j
  unfold fitV
  by_cases h1 : j = n
  · subst h1; simp [h]
  · have : j < n + 1 ↔ j < n := by omega
    simp [this]
theorem fitU_at (G : Nat → Int) (a b n : Nat) : fitU G a b n n = G n := by simp [fitU]
theorem fitV_at (G H : Nat → Int) (a b n : Nat) (v : Int) : fitV G H a b v n n = H n := by simp [fitV]
theorem fillU_0 (f h : Nat → Int) : fillU f 0 h = f := by funext j; simp [fillU]
theorem fillU_s (f h : Nat → Int) (n : Nat) : fillU f (n + 1) h = fun j => if j = n then h n else fillU f n h j := by
  funext j
  unfold fillU
  by_cases h1 : j = n
  · subst h1; simp
  · have : j < n + 1 ↔ j < n := by omega
    simp [h1, this]
/-- how many of the first n have none ahead of them that is alike -/
def fst1 (G : Nat → Int) (n : Nat) : Prop := ∀ j, j < n → G j ≠ G n
noncomputable def cntG (G : Nat → Int) : Nat → Int
  | 0 => 0
  | n + 1 => cntG G n + (@ite Int (fst1 G n) (Classical.propDecidable _) 1 0)
theorem cntG_b (G : Nat → Int) : ∀ n, 0 ≤ cntG G n ∧ cntG G n ≤ n
  | 0 => ⟨by simp [cntG], by simp [cntG]⟩
  | n + 1 => by
    have h := cntG_b G n
    unfold cntG
    split <;> omega
