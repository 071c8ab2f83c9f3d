/-! ===== pure words: the lips ===== -/
theorem mulb {a b A B : Int} (h1 : -A ≤ a) (h2 : a ≤ A) (h3 : -B ≤ b) (h4 : b ≤ B) : -(A * B) ≤ a * b ∧ a * b ≤ A * B := by
  have p1 : 0 ≤ (A - a) * (B + b) := Int.mul_nonneg (by omega) (by omega)
  have p2 : 0 ≤ (A + a) * (B - b) := Int.mul_nonneg (by omega) (by omega)
  have p3 : 0 ≤ (A - a) * (B - b) := Int.mul_nonneg (by omega) (by omega)
  have p4 : 0 ≤ (A + a) * (B + b) := Int.mul_nonneg (by omega) (by omega)
  simp only [Int.sub_mul, Int.add_mul, Int.mul_add, Int.mul_sub] at p1 p2 p3 p4
  omega
def lipI (n nx bd mn sd : Int) (B S : Nat → Int) : Prop := (2 ≤ n ∧ n ≤ 24) ∧ (0 ≤ nx ∧ nx ≤ 20) ∧ (0 ≤ bd ∧ bd ≤ 40) ∧ (1 ≤ mn ∧ mn ≤ 20) ∧ (-5 ≤ sd ∧ sd ≤ 5) ∧ (∀ j, -2000 ≤ B j ∧ B j ≤ 2000) ∧ (∀ j, -10 ≤ S j ∧ S j ≤ 10)
def LX (g : AG) : Prop := lipI (g 8 2) (g 8 3) (g 8 4) (g 8 5) (g 8 6) (g 9) (g 10)
def LM (g : AG) : Prop := lipI (g 21 0) (g 21 10) (g 21 11) (g 21 12) (g 21 13) (g 28) (g 29)
/-- ERROR of a PLACE -/
def eP (B S : Nat → Int) (mn sd n p : Int) : Int := B p.toNat + mn * S p.toNat + (if 0 < p then sd * S (p - 1).toNat else 0) + (if p < n - 1 then sd * S (p + 1).toNat else 0)
theorem eP_b {n nx bd mn sd : Int} {B S : Nat → Int} (h : lipI n nx bd mn sd B S) (p : Int) : -2300 ≤ eP B S mn sd n p ∧ eP B S mn sd n p ≤ 2300 := by
  obtain ⟨-, -, -, ⟨a1, a2⟩, ⟨b1, b2⟩, hB, hS⟩ := h
  have h1 := hB p.toNat
  have m1 := mulb (a := mn) (b := S p.toNat) (A := 20) (B := 10) (by omega) a2 (hS _).1 (hS _).2
  have m2 := mulb (a := sd) (b := S (p - 1).toNat) (A := 5) (B := 10) b1 b2 (hS _).1 (hS _).2
  have m3 := mulb (a := sd) (b := S (p + 1).toNat) (A := 5) (B := 10) b1 b2 (hS _).1 (hS _).2
  unfold eP
  split <;> split <;> omega
def tog (s a b : Int) : Int := if s = 0 then max a b else a + b
def unv (s : Int) (f : Nat → Int) : Nat → Int
  | 0 => 0
  | n + 1 => tog s (unv s f n) (f n)
theorem tog_b {s a b A B : Int} (h1 : 0 ≤ a) (h2 : a ≤ A) (h3 : 0 ≤ b) (h4 : b ≤ B) : 0 ≤ tog s a b ∧ tog s a b ≤ A + B := by
  unfold tog
  split <;> omega
theorem unv_b {s : Int} {f : Nat → Int} (h : ∀ j, 0 ≤ f j ∧ f j ≤ 2300) : ∀ n : Nat, 0 ≤ unv s f n ∧ unv s f n ≤ 2300 * n
  | 0 => by simp [unv]
  | n + 1 => by
    have ih := unv_b (s := s) h n
    have h2 := tog_b (s := s) ih.1 ih.2 (h n).1 (h n).2
    unfold unv
    omega
/-- SETTINGS are by LAWS -/
def lawf (S : Nat → Int) (n : Nat) (nx bd : Int) : Prop := ∀ p : Nat, p < n → (1 ≤ p → ((S p - S (p - 1)).natAbs : Int) ≤ nx) ∧ (2 ≤ p → ((2 * S (p - 1) - S (p - 2) - S p).natAbs : Int) ≤ bd)
def szX (g : AG) (p : Int) : Int := ((eP (g 9) (g 10) (g 8 5) (g 8 6) (g 8 2) p).natAbs : Int)
def szM (g : AG) (p : Int) : Int := ((eP (g 28) (g 29) (g 21 12) (g 21 13) (g 21 0) p).natAbs : Int)
theorem szX_b {g : AG} (h : LX g) (p : Int) : 0 ≤ szX g p ∧ szX g p ≤ 2300 := by
  have := eP_b h p
  unfold szX
  omega
theorem szM_b {g : AG} (h : LM g) (p : Int) : 0 ≤ szM g p ∧ szM g p ≤ 2300 := by
  have := eP_b h p
  unfold szM
  omega
theorem aset_at (g : AG) (k j : Nat) (v : Int) : aset g k j v k = fun j' => if j' = j then v else g k j' := by rw [aset_row, row_s]
theorem LX_set {g : AG} (h : LX g) {j : Nat} {x : Int} (h1 : -10 ≤ x) (h2 : x ≤ 10) : LX (aset g 10 j x) := by
  obtain ⟨a1, a2, a3, a4, a5, a6, a7⟩ := h
  refine ⟨a1, a2, a3, a4, a5, a6, fun j' => ?_⟩
  rw [aset_at]
  dsimp only
  split
  · exact ⟨h1, h2⟩
  · exact a7 j'
theorem LM_set {g : AG} (h : LM g) {j : Nat} {x : Int} (h1 : -10 ≤ x) (h2 : x ≤ 10) : LM (aset g 29 j x) := by
  obtain ⟨a1, a2, a3, a4, a5, a6, a7⟩ := h
  refine ⟨a1, a2, a3, a4, a5, a6, fun j' => ?_⟩
  rw [aset_at]
  dsimp only
  split
  · exact ⟨h1, h2⟩
  · exact a7 j'
theorem aset_back {g : AG} {k j : Nat} {v w : Int} (h : g k j = w) : aset (aset g k j v) k j w = g := by
  funext k' j'
  unfold aset
  split
  · rename_i h2; rw [h2.1, h2.2, h]
  · rfl
