/-! ===== pure words: what the calls of the face answer ===== -/
noncomputable def cif (Q : Prop) (a b : Int) : Int := @ite Int Q (Classical.propDecidable Q) a b
theorem cif_t {Q : Prop} {a b : Int} (h : Q) : cif Q a b = a := if_pos h
theorem cif_f {Q : Prop} {a b : Int} (h : ¬ Q) : cif Q a b = b := if_neg h
theorem cif_c {Q Q' : Prop} {a b : Int} (h : Q ↔ Q') : cif Q a b = cif Q' a b := by
  by_cases q : Q
  · rw [cif_t q, cif_t (h.mp q)]
  · rw [cif_f q, cif_f (fun z => q (h.mpr z))]
noncomputable def rRead (n c t p v : Int) (F : Prop) : Int := if ¬ (0 ≤ p ∧ p ≤ n - 1) then -1 else if ¬ (0 ≤ t ∧ t ≤ 39 ∧ -1000 ≤ v ∧ v ≤ 1000) then -2 else if 100 ≤ c then -4 else cif F 1 0
def rReading (c i w : Int) (T Pl V F : Nat → Int) : Int := if ¬ (0 ≤ i ∧ i ≤ c - 1) then -1000001 else if w = 0 then T i.toNat else if w = 1 then Pl i.toNat else if w = 2 then V i.toNat else if w = 3 then F i.toNat else -1000002
noncomputable def rAcross (n p : Int) (Q : Prop) (d : Int) : Int := if ¬ (0 ≤ p ∧ p ≤ n - 1) then -1000001 else cif Q d (-1000005)
noncomputable def rAlong (t u : Int) (Q : Prop) (d : Int) : Int := if ¬ (0 ≤ t ∧ t ≤ 39 ∧ 0 ≤ u ∧ u ≤ 39) then -1000001 else cif Q d (-1000005)
def takeP (n : Nat) (Q : Nat → Prop) (d : Nat → Int) : Prop := ∀ p, p < n → Q p ∧ -2000 ≤ d p ∧ d p ≤ 2000
def rSheet (n a : Int) : Int := if 2 ≤ a ∧ a ≤ 24 then n else -2
noncomputable def rLaws (S : Nat → Int) (n a b : Int) : Int := if 0 ≤ a ∧ a ≤ 20 ∧ 0 ≤ b ∧ b ≤ 40 then cif (lawf S n.toNat a b) 1 (-5) else -2
def rSpread (a b : Int) : Int := if 1 ≤ a ∧ a ≤ 20 ∧ -5 ≤ b ∧ b ≤ 5 then 1 else -2
def rBase (n p v : Int) : Int := if ¬ (0 ≤ p ∧ p ≤ n - 1) then -1 else if -2000 ≤ v ∧ v ≤ 2000 then 1 else -2
noncomputable def rSet (S : Nat → Int) (n nx bd p v : Int) : Int := if ¬ (0 ≤ p ∧ p ≤ n - 1) then -1 else if -10 ≤ v ∧ v ≤ 10 then cif (lawf (fun j => if j = p.toNat then v else S j) n.toNat nx bd) 1 (-5) else -2
def rAbout (B S : Nat → Int) (mn sd n p w : Int) : Int := if ¬ (0 ≤ p ∧ p ≤ n - 1) then -1000001 else if w = 0 then S p.toNat else if w = 1 then B p.toNat else if w = 2 then eP B S mn sd n p else -1000002
def rUneven (f : Int → Int) (n k : Int) : Int := if 0 ≤ k ∧ k ≤ 1 then unv (if k = 0 then 1 else 0) (fun j => f (j : Int)) n.toNat else -2
def rKind (c w v b : Int) : Int := if 1 ≤ w ∧ w ≤ 24 ∧ 1 ≤ v ∧ v ≤ 1000 ∧ 0 ≤ b ∧ b ≤ 2000 then (if 4 ≤ c then -4 else c) else -2
def lieP (w bo n : Int) (sz : Int → Int) (a : Int) : Prop := a + w ≤ n ∧ ∀ p, a ≤ p → p < a + w → sz p ≤ bo
noncomputable def rLie (c n k p : Int) (Q : Prop) : Int := if 0 ≤ k ∧ k ≤ c - 1 ∧ 0 ≤ p ∧ p ≤ n - 1 then cif Q 1 0 else -1
def rCost (c a b v o : Int) : Int := if 0 ≤ a ∧ a ≤ c - 1 ∧ 0 ≤ b ∧ b ≤ c - 1 then (if 0 ≤ v ∧ v ≤ 1000 then (if a = b then -5 else o) else -2) else -1
def rTold (a0 a1 a2 a3 a4 a5 a6 a7 a8 w : Int) : Int := if w = 0 then a0 else if w = 1 then a1 else if w = 2 then a2 else if w = 3 then a3 else if w = 4 then a4 else if w = 5 then a5 else if w = 6 then a6 else if w = 7 then a7 else if w = 8 then a8 else -1002
def cntB (f : Nat → Int) : Nat → Int
  | 0 => 0
  | n + 1 => cntB f n + (if f n = 0 then 0 else 1)
theorem cntB_b (f : Nat → Int) : ∀ n : Nat, 0 ≤ cntB f n ∧ cntB f n ≤ n
  | 0 => by simp [cntB]
  | n + 1 => by
    have h := cntB_b f n
    unfold cntB
    split <;> omega
def setI (c : Int) (Wd Pr Bo : Nat → Int) : Prop := (0 ≤ c ∧ c ≤ 4) ∧ (∀ j, 0 ≤ Wd j ∧ Wd j ≤ 24) ∧ (∀ j, 0 ≤ Pr j ∧ Pr j ≤ 1000) ∧ (∀ j, 0 ≤ Bo j ∧ Bo j ≤ 2000) ∧ ∀ j : Nat, (j : Int) < c → 1 ≤ Wd j
def KX (g : AG) : Prop := setI (g 12 4) (g 13) (g 14) (g 15)
def KM (g : AG) : Prop := setI (g 21 14) (g 30) (g 31) (g 32)
theorem lawf_s (S : Nat → Int) (n : Nat) (a b : Int) : lawf S (n + 1) a b ↔ lawf S n a b ∧ (1 ≤ n → ((S n - S (n - 1)).natAbs : Int) ≤ a) ∧ (2 ≤ n → ((2 * S (n - 1) - S (n - 2) - S n).natAbs : Int) ≤ b) := by
  constructor
  · intro h
    exact ⟨fun p hp => h p (by omega), (h n (by omega)).1, (h n (by omega)).2⟩
  · rintro ⟨h1, h2, h3⟩ p hp
    by_cases e : p = n
    · subst e
      exact ⟨h2, h3⟩
    · exact h1 p (by omega)
/-- what a reading does to the model -/
def modA (g : AG) (t p v x : Int) : AG :=
  aset (aset (aset (aset (aset (row (row g 26 (fitU (g 26) t.toNat (40 + p).toNat 64)) 27 (fitH (g 26) (g 27) t.toNat (40 + p).toNat v)) 22 (g 21 1).toNat t) 23 (g 21 1).toNat p) 24 (g 21 1).toNat v) 25 (g 21 1).toNat x) 21 1 (g 21 1 + 1)
