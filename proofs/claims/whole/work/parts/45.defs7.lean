/-! ===== pure words: the best settings ===== -/
/-- bases, main, side, next, bend, and whether sums are asked for -/
abbrev BD : Type := (Nat → Int) × Int × Int × Int × Int × Int
def dX (g : AG) (s : Int) : BD := (g 9, g 8 5, g 8 6, g 8 3, g 8 4, s)
def dM (g : AG) (s : Int) : BD := (g 28, g 21 12, g 21 13, g 21 10, g 21 11, s)
def dI (D : BD) : Prop := (∀ j, -2000 ≤ D.1 j ∧ D.1 j ≤ 2000) ∧ (1 ≤ D.2.1 ∧ D.2.1 ≤ 20) ∧ (-5 ≤ D.2.2.1 ∧ D.2.2.1 ≤ 5) ∧ (0 ≤ D.2.2.2.1 ∧ D.2.2.2.1 ≤ 20) ∧ (0 ≤ D.2.2.2.2.1 ∧ D.2.2.2.2.1 ≤ 40) ∧ (D.2.2.2.2.2 = 0 ∨ D.2.2.2.2.2 = 1)
theorem dI_X {g : AG} {s : Int} (h : LX g) (hs : s = 0 ∨ s = 1) : dI (dX g s) := ⟨h.2.2.2.2.2.1, h.2.2.2.1, h.2.2.2.2.1, h.2.1, h.2.2.1, hs⟩
theorem dI_M {g : AG} {s : Int} (h : LM g) (hs : s = 0 ∨ s = 1) : dI (dM g s) := ⟨h.2.2.2.2.2.1, h.2.2.2.1, h.2.2.2.2.1, h.2.1, h.2.2.1, hs⟩
def okc (D : BD) (p : Nat) (a b c : Int) : Prop := ((b - c).natAbs : Int) ≤ D.2.2.2.1 ∧ (p = 0 ∨ ((2 * b - a - c).natAbs : Int) ≤ D.2.2.2.2.1)
/-- the error of a place without and with the one behind it -/
def er0 (D : BD) (p : Nat) (a b : Int) : Int := D.1 p + D.2.1 * b + (if p = 0 then 0 else D.2.2.1 * a)
def erc (D : BD) (p : Nat) (a b c : Int) : Int := ((er0 D p a b + D.2.2.1 * c).natAbs : Int)
noncomputable def bF (D : BD) (W : Int → Int → Int) (p : Nat) (a b c : Int) : Int := cif (okc D p a b c) (tog D.2.2.2.2.2 (erc D p a b c) (W b c)) 1000000
def mnF (F : Int → Int) : Nat → Int
  | 0 => 1000000
  | k + 1 => min (mnF F k) (F ((k : Int) - 10))
noncomputable def bV (D : BD) : Nat → Nat → Int → Int → Int
  | 0, p, a, b => ((er0 D p a b).natAbs : Int)
  | d + 1, p, a, b => mnF (bF D (bV D d (p + 1)) p a b) 21
/-- v is the least of F below c -/
def mnP (F : Int → Int) (c v : Int) : Prop := v ≤ 1000000 ∧ (∀ x, -10 ≤ x → x ≤ 10 → x < c → v ≤ F x) ∧ (v = 1000000 ∨ ∃ x, -10 ≤ x ∧ x ≤ 10 ∧ x < c ∧ v = F x)
theorem mnF_P (F : Int → Int) : ∀ k : Nat, k ≤ 21 → mnP F ((k : Int) - 10) (mnF F k)
  | 0, _ => ⟨Int.le_refl _, fun x h1 h2 h3 => by omega, Or.inl rfl⟩
  | k + 1, hk => by
    obtain ⟨h1, h2, h3⟩ := mnF_P F k (by omega)
    have e : mnF F (k + 1) = min (mnF F k) (F ((k : Int) - 10)) := rfl
    refine ⟨by rw [e]; omega, fun x q1 q2 q3 => ?_, ?_⟩
    · by_cases ex : x = (k : Int) - 10
      · subst ex; rw [e]; omega
      · have := h2 x q1 q2 (by omega)
        rw [e]; omega
    · rw [e]
      by_cases q : F ((k : Int) - 10) < mnF F k
      · exact Or.inr ⟨(k : Int) - 10, by omega, by omega, by omega, by omega⟩
      · rcases h3 with z | ⟨x, z1, z2, z3, z4⟩
        · exact Or.inl (by omega)
        · exact Or.inr ⟨x, z1, z2, by omega, by omega⟩
theorem mnF_21 (F : Int → Int) : mnP F 11 (mnF F 21) := mnF_P F 21 (Nat.le_refl _)
theorem mnP_one {F : Int → Int} {c v w : Int} (h : mnP F c v) (h' : mnP F c w) : v = w := by
  obtain ⟨a1, a2, a3⟩ := h
  obtain ⟨b1, b2, b3⟩ := h'
  have key : v ≤ w := by
    rcases b3 with z | ⟨x, z1, z2, z3, z4⟩
    · omega
    · have := a2 x z1 z2 z3
      omega
  have key2 : w ≤ v := by
    rcases a3 with z | ⟨x, z1, z2, z3, z4⟩
    · omega
    · have := b2 x z1 z2 z3
      omega
  omega
theorem mnP_start {F : Int → Int} {c : Int} (h : ∀ x, -10 ≤ x → x ≤ 10 → x < c → 1000000 ≤ F x) : mnP F c 1000000 := ⟨Int.le_refl _, h, Or.inl rfl⟩
theorem mnP_step {F : Int → Int} {c v w : Int} (h1 : -10 ≤ c) (h2 : c ≤ 10) (hw : w = min v (F c)) (h : mnP F c v) : mnP F (c + 1) w := by
  obtain ⟨a1, a2, a3⟩ := h
  refine ⟨by omega, fun x q1 q2 q3 => ?_, ?_⟩
  · by_cases e : x = c
    · subst e; omega
    · have := a2 x q1 q2 (by omega)
      omega
  · by_cases q : F c < v
    · clear a3 a2
      exact Or.inr ⟨c, h1, h2, by omega, by omega⟩
    · rcases a3 with z | ⟨x, z1, z2, z3, z4⟩
      · exact Or.inl (by omega)
      · exact Or.inr ⟨x, z1, z2, by omega, by omega⟩
theorem mnP_end {F : Int → Int} {c v : Int} (hF : ∀ x, -10 ≤ x → x ≤ 10 → c ≤ x → 1000000 ≤ F x) (h : mnP F c v) : v = mnF F 21 := by
  refine mnP_one (c := 11) ?_ (mnF_21 F)
  obtain ⟨a1, a2, a3⟩ := h
  refine ⟨a1, fun x q1 q2 q3 => ?_, ?_⟩
  · by_cases q : x < c
    · exact a2 x q1 q2 q
    · have := hF x q1 q2 (by omega)
      omega
  · rcases a3 with z | ⟨x, z1, z2, z3, z4⟩
    · exact Or.inl z
    · exact Or.inr ⟨x, z1, z2, by omega, z4⟩
theorem er0_b {D : BD} (h : dI D) (p : Nat) {a b c : Int} (ha : -10 ≤ a ∧ a ≤ 10) (hb : -10 ≤ b ∧ b ≤ 10) (hc : -10 ≤ c ∧ c ≤ 10) : (-2250 ≤ er0 D p a b ∧ er0 D p a b ≤ 2250) ∧ (-2300 ≤ er0 D p a b + D.2.2.1 * c ∧ er0 D p a b + D.2.2.1 * c ≤ 2300) := by
  obtain ⟨h1, h2, h3, -⟩ := h
  have z1 := h1 p
  have m1 := mulb (a := D.2.1) (b := b) (A := 20) (B := 10) (by omega) (by omega) hb.1 hb.2
  have m2 := mulb (a := D.2.2.1) (b := a) (A := 5) (B := 10) (by omega) (by omega) ha.1 ha.2
  have m3 := mulb (a := D.2.2.1) (b := c) (A := 5) (B := 10) (by omega) (by omega) hc.1 hc.2
  unfold er0
  split <;> omega
theorem erc_b {D : BD} (h : dI D) (p : Nat) {a b c : Int} (ha : -10 ≤ a ∧ a ≤ 10) (hb : -10 ≤ b ∧ b ≤ 10) (hc : -10 ≤ c ∧ c ≤ 10) : 0 ≤ erc D p a b c ∧ erc D p a b c ≤ 2300 := by
  have := (er0_b h p ha hb hc).2
  unfold erc
  omega
theorem tog_ge {s a b : Int} (ha : 0 ≤ a) (hb : 0 ≤ b) : a ≤ tog s a b ∧ b ≤ tog s a b := by
  unfold tog
  split <;> omega
/-- bounds of the table -/
theorem bV_b {D : BD} (h : dI D) : ∀ (d p : Nat) (a b : Int), -10 ≤ a ∧ a ≤ 10 → -10 ≤ b ∧ b ≤ 10 → 0 ≤ bV D d p a b ∧ bV D d p a b ≤ 1000000 ∧ (bV D d p a b < 1000000 → bV D d p a b ≤ 2300 * (d + 1))
  | 0, p, a, b, ha, hb => by
    have := (er0_b (c := 0) h p ha hb ⟨by omega, by omega⟩).1
    unfold bV
    omega
  | d + 1, p, a, b, ha, hb => by
    obtain ⟨h1, h2, h3⟩ := mnF_21 (bF D (bV D d (p + 1)) p a b)
    have e : bV D (d + 1) p a b = mnF (bF D (bV D d (p + 1)) p a b) 21 := rfl
    rw [e]
    rcases h3 with z | ⟨x, z1, z2, z3, z4⟩
    · rw [z]
      exact ⟨by omega, by omega, fun q => absurd q (by omega)⟩
    · have hx := bV_b h d (p + 1) b x hb ⟨z1, z2⟩
      have hr := erc_b h p (c := x) ha hb ⟨z1, z2⟩
      rw [z4] at h1 ⊢
      unfold bF at h1 ⊢
      by_cases q : okc D p a b x
      · rw [cif_t q] at h1 ⊢
        have g1 := tog_ge (s := D.2.2.2.2.2) hr.1 hx.1
        refine ⟨by omega, h1, fun q2 => ?_⟩
        have hx2 := hx.2.2 (by omega)
        have := tog_b (s := D.2.2.2.2.2) hr.1 hr.2 hx.1 hx2
        omega
      · rw [cif_f q] at h1 ⊢
        exact ⟨by omega, by omega, fun q => absurd q (by omega)⟩
/-- all at nought goes -/
theorem bV_0 {D : BD} (h : dI D) : ∀ (d p : Nat), d ≤ 24 → bV D d p 0 0 < 1000000
  | 0, p, _ => by
    have := (er0_b (a := 0) (b := 0) (c := 0) h p ⟨by omega, by omega⟩ ⟨by omega, by omega⟩ ⟨by omega, by omega⟩).1
    unfold bV
    omega
  | d + 1, p, hd => by
    have e : bV D (d + 1) p 0 0 = mnF (bF D (bV D d (p + 1)) p 0 0) 21 := rfl
    have h2 := (mnF_21 (bF D (bV D d (p + 1)) p 0 0)).2.1 0 (by omega) (by omega) (by omega)
    have q : okc D p 0 0 0 := ⟨by have := h.2.2.2.1; simpa using this.1, Or.inr (by have := h.2.2.2.2.1; simpa using this.1)⟩
    have ih := bV_0 h d (p + 1) (by omega)
    have ib := bV_b h d (p + 1) 0 0 ⟨by omega, by omega⟩ ⟨by omega, by omega⟩
    have hr := erc_b (a := 0) (b := 0) (c := 0) h p ⟨by omega, by omega⟩ ⟨by omega, by omega⟩ ⟨by omega, by omega⟩
    unfold bF at h2
    rw [cif_t q] at h2
    have b1 := ib.2.2 ih
    have := tog_b (s := D.2.2.2.2.2) hr.1 hr.2 ib.1 b1
    rw [e]
    unfold bF
    omega
/-- a setting that may come next: all still comes to L at most -/
def gdc (D : BD) (W : Int → Int → Int) (p : Nat) (sp L a b c : Int) : Prop := -10 ≤ c ∧ c ≤ 10 ∧ okc D p a b c ∧ tog D.2.2.2.2.2 (tog D.2.2.2.2.2 sp (erc D p a b c)) (W b c) ≤ L
def fgd (D : BD) (W : Int → Int → Int) (p : Nat) (sp L a b c : Int) : Prop := gdc D W p sp L a b c ∧ ∀ x, x < c → ¬ gdc D W p sp L a b x
theorem fgd_one {D : BD} {W : Int → Int → Int} {p : Nat} {sp L a b c c' : Int} (h : fgd D W p sp L a b c) (h' : fgd D W p sp L a b c') : c = c' := by
  rcases Int.lt_trichotomy c c' with q | q | q
  · exact absurd h.1 (h'.2 c q)
  · exact q
  · exact absurd h'.1 (h.2 c' q)
/-- where a walk of best settings stands -/
def inv (D : BD) (d p : Nat) (sp L a b : Int) : Prop := 0 ≤ sp ∧ sp ≤ L ∧ L < 1000000 ∧ (D.2.2.2.2.2 = 1 → sp + bV D d p a b = L) ∧ (D.2.2.2.2.2 = 0 → bV D d p a b ≤ L)
theorem inv_ex {D : BD} (h : dI D) {d p : Nat} {sp L a b : Int} (ha : -10 ≤ a ∧ a ≤ 10) (hb : -10 ≤ b ∧ b ≤ 10) (hi : inv D (d + 1) p sp L a b) : ∃ c, gdc D (bV D d (p + 1)) p sp L a b c := by
  obtain ⟨i1, i2, i3, i4, i5⟩ := hi
  have e : bV D (d + 1) p a b = mnF (bF D (bV D d (p + 1)) p a b) 21 := rfl
  have hlt : bV D (d + 1) p a b < 1000000 := by
    rcases h.2.2.2.2.2 with q | q
    · have := i5 q
      omega
    · have := i4 q
      omega
  obtain ⟨h1, h2, h3⟩ := mnF_21 (bF D (bV D d (p + 1)) p a b)
  rw [← e] at h1 h2 h3
  rcases h3 with z | ⟨x, z1, z2, z3, z4⟩
  · omega
  · have hx := bV_b h d (p + 1) b x hb ⟨z1, z2⟩
    have hr := erc_b h p (c := x) ha hb ⟨z1, z2⟩
    unfold bF at z4
    by_cases q : okc D p a b x
    · rw [cif_t q] at z4
      refine ⟨x, z1, z2, q, ?_⟩
      rcases h.2.2.2.2.2 with s0 | s1
      · have := i5 s0
        unfold tog at z4 ⊢
        rw [if_pos s0] at z4 ⊢
        rw [if_pos s0]
        omega
      · have := i4 s1
        unfold tog at z4 ⊢
        rw [if_neg (by omega)] at z4 ⊢
        rw [if_neg (by omega)]
        omega
    · rw [cif_f q] at z4
      omega
theorem inv_st {D : BD} (h : dI D) {d p : Nat} {sp L a b c : Int} (ha : -10 ≤ a ∧ a ≤ 10) (hb : -10 ≤ b ∧ b ≤ 10) (hi : inv D (d + 1) p sp L a b) (hg : gdc D (bV D d (p + 1)) p sp L a b c) : inv D d (p + 1) (tog D.2.2.2.2.2 sp (erc D p a b c)) L b c := by
  obtain ⟨i1, i2, i3, i4, i5⟩ := hi
  obtain ⟨g1, g2, g3, g4⟩ := hg
  have e : bV D (d + 1) p a b = mnF (bF D (bV D d (p + 1)) p a b) 21 := rfl
  have h2 := (mnF_21 (bF D (bV D d (p + 1)) p a b)).2.1 c g1 g2 (by omega)
  rw [← e] at h2
  have hx := bV_b h d (p + 1) b c hb ⟨g1, g2⟩
  have hr := erc_b h p (c := c) ha hb ⟨g1, g2⟩
  unfold bF at h2
  rw [cif_t g3] at h2
  rcases h.2.2.2.2.2 with s0 | s1
  · have := i5 s0
    unfold tog at g4 h2 ⊢
    rw [if_pos s0] at g4 h2 ⊢
    rw [if_pos s0] at g4
    exact ⟨by omega, by omega, i3, fun z => by omega, fun _ => by omega⟩
  · have := i4 s1
    unfold tog at g4 h2 ⊢
    rw [if_neg (by omega)] at g4 h2 ⊢
    rw [if_neg (by omega)] at g4
    exact ⟨by omega, by omega, i3, fun _ => by omega, fun z => by omega⟩
/-- the best settings' walk, xs chosen up to place k -/
def spn (D : BD) (xs : Nat → Int) : Nat → Int
  | 0 => 0
  | p + 1 => tog D.2.2.2.2.2 (spn D xs p) (erc D p (if p = 0 then 0 else xs (p - 1)) (xs p) (xs (p + 1)))
def bstQ (D : BD) (n : Nat) (L : Int) (xs : Nat → Int) (k : Nat) : Prop := (-10 ≤ xs 0 ∧ xs 0 ≤ 10 ∧ L < 1000000 ∧ bV D (n - 1) 0 0 (xs 0) = L ∧ (∀ x, -10 ≤ x → x ≤ 10 → L ≤ bV D (n - 1) 0 0 x) ∧ ∀ x, -10 ≤ x → x < xs 0 → L < bV D (n - 1) 0 0 x) ∧ ∀ p, p < k → fgd D (bV D (n - 2 - p) (p + 1)) p (spn D xs p) L (if p = 0 then 0 else xs (p - 1)) (xs p) (xs (p + 1))
theorem spn_c {D : BD} {xs ys : Nat → Int} : ∀ k : Nat, (∀ j, j ≤ k → xs j = ys j) → spn D xs k = spn D ys k
  | 0, _ => rfl
  | p + 1, h => by
    unfold spn
    rw [spn_c p (fun j hj => h j (by omega)), h p (by omega), h (p + 1) (by omega)]
    by_cases e : p = 0
    · rw [if_pos e, if_pos e]
    · rw [if_neg e, if_neg e, h (p - 1) (by omega)]
theorem bstQ_r {D : BD} {n : Nat} {L : Int} {xs : Nat → Int} {k : Nat} (h : bstQ D n L xs k) : ∀ j, j ≤ k → -10 ≤ xs j ∧ xs j ≤ 10 := by
  intro j hj
  by_cases e : j = 0
  · subst e; exact ⟨h.1.1, h.1.2.1⟩
  · have := (h.2 (j - 1) (by omega)).1
    rw [show j - 1 + 1 = j by omega] at this
    exact ⟨this.1, this.2.1⟩
theorem bstQ_inv {D : BD} (hD : dI D) {n : Nat} {L : Int} {xs : Nat → Int} {k : Nat} (hk : k + 1 ≤ n) (h : bstQ D n L xs k) : ∀ p, p ≤ k → inv D (n - 1 - p) p (spn D xs p) L (if p = 0 then 0 else xs (p - 1)) (xs p)
  | 0, _ => by
    have hb := bV_b hD (n - 1) 0 0 (xs 0) ⟨by omega, by omega⟩ ⟨h.1.1, h.1.2.1⟩
    have e := h.1.2.2.2.1
    refine ⟨Int.le_refl _, ?_, h.1.2.2.1, fun _ => ?_, fun _ => ?_⟩
    · show (0 : Int) ≤ L
      omega
    · show 0 + bV D (n - 1) 0 0 (xs 0) = L
      omega
    · show bV D (n - 1) 0 0 (xs 0) ≤ L
      omega
  | p + 1, hp => by
    have ih := bstQ_inv hD hk h p (by omega)
    have hg := (h.2 p (by omega)).1
    rw [show n - 1 - p = (n - 2 - p) + 1 by omega] at ih
    have r1 := bstQ_r h p (by omega)
    have r2 : -10 ≤ (if p = 0 then 0 else xs (p - 1)) ∧ (if p = 0 then 0 else xs (p - 1)) ≤ 10 := by
      by_cases e : p = 0
      · rw [if_pos e]; omega
      · rw [if_neg e]; exact bstQ_r h (p - 1) (by omega)
    have := inv_st hD r2 r1 ih hg
    rw [if_neg (by omega), show p + 1 - 1 = p by omega, show n - 1 - (p + 1) = n - 2 - p by omega]
    exact this
theorem bstQ_s {D : BD} {n : Nat} {L : Int} {xs : Nat → Int} {k : Nat} {c : Int} (h : bstQ D n L xs k) (hg : fgd D (bV D (n - 2 - k) (k + 1)) k (spn D xs k) L (if k = 0 then 0 else xs (k - 1)) (xs k) c) : bstQ D n L (fun j => if j = k + 1 then c else xs j) (k + 1) := by
  refine ⟨h.1, fun p hp => ?_⟩
  have e1 : spn D (fun j => if j = k + 1 then c else xs j) p = spn D xs p := spn_c p (fun j hj => if_neg (by omega))
  rw [e1]
  dsimp only
  rw [if_neg (show ¬ p = k + 1 by omega), if_neg (show ¬ p - 1 = k + 1 by omega)]
  by_cases e : p = k
  · subst e
    rw [if_pos rfl]
    exact hg
  · rw [if_neg (show ¬ p + 1 = k + 1 by omega)]
    exact h.2 p (by omega)
theorem bst_one {D : BD} {n : Nat} {L L' : Int} {xs ys : Nat → Int} {k : Nat} (h : bstQ D n L xs k) (h' : bstQ D n L' ys k) : L = L' ∧ ∀ j, j ≤ k → xs j = ys j := by
  obtain ⟨⟨a1, a2, a3, a4, a5, a6⟩, a7⟩ := h
  obtain ⟨⟨b1, b2, b3, b4, b5, b6⟩, b7⟩ := h'
  have eL : L = L' := by
    have := a5 (ys 0) b1 b2
    have := b5 (xs 0) a1 a2
    omega
  subst eL
  have e0 : xs 0 = ys 0 := by
    rcases Int.lt_trichotomy (xs 0) (ys 0) with q | q | q
    · have := b6 (xs 0) a1 q
      omega
    · exact q
    · have := a6 (ys 0) b1 q
      omega
  refine ⟨rfl, ?_⟩
  have key : ∀ j, j ≤ k → ∀ i, i ≤ j → xs i = ys i := by
    intro j
    induction j with
    | zero => intro _ i hi; rw [show i = 0 by omega]; exact e0
    | succ j ih =>
      intro hj i hi
      have ih := ih (by omega)
      by_cases e : i = j + 1
      · subst e
        have q1 := a7 j (by omega)
        have q2 := b7 j (by omega)
        rw [← spn_c (D := D) (xs := xs) (ys := ys) j ih, ← ih j (Nat.le_refl _)] at q2
        by_cases e2 : j = 0
        · rw [if_pos e2] at q1 q2
          exact fgd_one q1 q2
        · rw [if_neg e2] at q1 q2
          rw [← ih (j - 1) (by omega)] at q2
          exact fgd_one q1 q2
      · exact ih i (by omega)
  exact fun j hj => key j hj j (Nat.le_refl _)
def sp3 (p a b : Int) : Nat := ((p * 21 + a + 10) * 21 + b + 10).toNat
