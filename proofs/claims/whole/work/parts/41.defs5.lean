/-! ===== pure words: grades, sets of grades as bits ===== -/
abbrev tb (m j : Nat) : Prop := m / 2 ^ j % 2 = 1
def clr (m j : Nat) : Nat := if m / 2 ^ j % 2 = 1 then m - 2 ^ j else m
def sto (m j : Nat) : Nat := if m / 2 ^ j % 2 = 1 then m else m + 2 ^ j
def pop (m : Nat) : Nat := m % 2 + m / 2 % 2 + m / 4 % 2 + m / 8 % 2 + m / 16 % 2 + m / 32 % 2 + m / 64 % 2 + m / 128 % 2 + m / 256 % 2
set_option maxRecDepth 100000 in
theorem b_shl : ∀ j : Nat, j < 10 → i3 ((2 ^ j : Nat) : Int) = i3 1 <<< (i3 (j : Int) &&& 31) := by decide +kernel
set_option maxRecDepth 100000 in
theorem b_not : ∀ j : Nat, j < 9 → i3 (-((2 ^ j : Nat) : Int) - 1) = i3 ((2 ^ j : Nat) : Int) ^^^ i3 (-1) := by decide +kernel
set_option maxRecDepth 100000 in
theorem b_clr : ∀ m : Nat, m < 512 → ∀ j : Nat, j < 9 → i3 ((clr m j : Nat) : Int) = i3 (m : Int) &&& i3 (-((2 ^ j : Nat) : Int) - 1) := by decide +kernel
set_option maxRecDepth 100000 in
theorem b_shr : ∀ m : Nat, m < 512 → ∀ j : Nat, j < 9 → i3 ((m / 2 ^ j : Nat) : Int) = i3 (m : Int) >>> (i3 (j : Int) &&& 31) := by decide +kernel
set_option maxRecDepth 100000 in
theorem b_one : ∀ m : Nat, m < 512 → i3 ((m % 2 : Nat) : Int) = i3 (m : Int) &&& i3 1 := by decide +kernel
set_option maxRecDepth 100000 in
theorem b_or : ∀ m : Nat, m < 512 → ∀ j : Nat, j < 9 → i3 ((sto m j : Nat) : Int) = i3 (m : Int) ||| i3 ((2 ^ j : Nat) : Int) := by decide +kernel
set_option maxRecDepth 100000 in
theorem clr_lt : ∀ m : Nat, m < 512 → ∀ j : Nat, j < 9 → tb m j → clr m j < m := by decide +kernel
set_option maxRecDepth 100000 in
theorem clr_tb : ∀ m : Nat, m < 512 → ∀ j : Nat, j < 9 → ¬ tb (clr m j) j := by decide +kernel
set_option maxRecDepth 100000 in
theorem clr_pop : ∀ m : Nat, m < 512 → ∀ j : Nat, j < 9 → tb m j → pop (clr m j) + 1 = pop m := by decide +kernel
set_option maxRecDepth 100000 in
theorem sto_pop : ∀ m : Nat, m < 512 → ∀ j : Nat, j < 9 → ¬ tb m j → pop (sto m j) = pop m + 1 ∧ m < sto m j := by decide +kernel
set_option maxRecDepth 100000 in
theorem sto_lt : ∀ c, c < 10 → ∀ m, m < 2 ^ c → ∀ j, j < c → sto m j < 2 ^ c := by decide +kernel
set_option maxRecDepth 100000 in
theorem pop_b : ∀ m, m < 512 → pop m ≤ 9 ∧ (pop m = 0 → m = 0) := by decide +kernel
set_option maxRecDepth 100000 in
theorem two_b : ∀ c, c < 10 → 1 ≤ 2 ^ c ∧ 2 ^ c ≤ 512 := by decide +kernel
set_option maxRecDepth 100000 in
theorem ful_tb : ∀ c, c < 10 → ∀ m, m < 2 ^ c → ∀ j, j < c → (tb (2 ^ c - 1 - m) j ↔ ¬ tb m j) := by decide +kernel
set_option maxRecDepth 100000 in
theorem ful_sto : ∀ c, c < 10 → ∀ m, m < 2 ^ c → ∀ j, j < c → tb m j → sto (2 ^ c - 1 - m) j = 2 ^ c - 1 - clr m j := by decide +kernel
set_option maxRecDepth 100000 in
theorem ful_clr : ∀ c, c < 10 → ∀ j, j < c → 2 ^ c - 1 - clr (2 ^ c - 1) j = 2 ^ j ∧ clr (2 ^ c - 1) j < 2 ^ c ∧ pop (clr (2 ^ c - 1) j) + 1 = c ∧ ¬ tb (clr (2 ^ c - 1) j) j ∧ 2 ^ j < 2 ^ c := by decide +kernel
set_option maxRecDepth 100000 in
theorem some_tb : ∀ c, c < 10 → ∀ m, m < 2 ^ c → m ≠ 0 → ∃ j, j < c ∧ tb m j := by decide +kernel
set_option maxRecDepth 100000 in
theorem ful_pop : ∀ c, c < 10 → pop (2 ^ c - 1) = c ∧ ∀ m, m < 2 ^ c → pop m ≤ c ∧ (pop m = c → m = 2 ^ c - 1) := by decide +kernel
/-- what it costs to go to t from a, l being left -/
def vX (co f : Nat → Int) (l a t : Nat) : Int := co (9 * a + t) + f (9 * clr l t + t)
def vM (co f : Nat → Int) (s a h : Nat) : Int := co (9 * a + h) + f (9 * sto s h + h)
def minX (c : Nat) (co f : Nat → Int) (l a : Nat) (v : Int) : Prop := (l = 0 → v = 0) ∧ (l ≠ 0 → (∀ t, t < c → tb l t → v ≤ vX co f l a t) ∧ ∃ t, t < c ∧ tb l t ∧ v = vX co f l a t)
def minM (c : Nat) (co f : Nat → Int) (s a : Nat) (v : Int) : Prop := (s = 2 ^ c - 1 → v = 0) ∧ (s ≠ 2 ^ c - 1 → (∀ h, h < c → ¬ tb s h → v ≤ vM co f s a h) ∧ ∃ h, h < c ∧ ¬ tb s h ∧ v = vM co f s a h)
def okX (c : Nat) (co f : Nat → Int) (l a : Nat) : Prop := minX c co f l a (f (9 * l + a)) ∧ 0 ≤ f (9 * l + a) ∧ f (9 * l + a) ≤ 1000 * (pop l : Int)
def okM (c : Nat) (co f : Nat → Int) (s a : Nat) : Prop := minM c co f s a (f (9 * s + a)) ∧ 0 ≤ f (9 * s + a) ∧ f (9 * s + a) ≤ 1000 * (9 - (pop s : Int))
def tabX (c : Nat) (co f : Nat → Int) : Prop := ∀ l, l < 2 ^ c → ∀ a, a < c → ¬ tb l a → okX c co f l a
def tabM (c : Nat) (co f : Nat → Int) : Prop := ∀ s, 0 < s → s < 2 ^ c → ∀ a, a < c → okM c co f s a
def stepS (c : Nat) (co f : Nat → Int) (l a t : Nat) : Prop := t < c ∧ tb l t ∧ (∀ s, s < c → tb l s → vX co f l a t ≤ vX co f l a s) ∧ ∀ s, s < t → tb l s → vX co f l a t < vX co f l a s
theorem stepS_one {c : Nat} {co f : Nat → Int} {l a t u : Nat} (h : stepS c co f l a t) (h' : stepS c co f l a u) : t = u := by
  obtain ⟨a1, a2, a3, a4⟩ := h
  obtain ⟨b1, b2, b3, b4⟩ := h'
  rcases Nat.lt_trichotomy t u with q | q | q
  · have := b4 t q a2
    have := a3 u b1 b2
    omega
  · exact q
  · have := a4 u q b2
    have := b3 t a1 a2
    omega
noncomputable def nxS (c : Nat) (co f : Nat → Int) (l a : Nat) : Nat := @dite Nat (∃ t, stepS c co f l a t) (Classical.propDecidable _) (fun h => Classical.choose h) (fun _ => a)
theorem nxS_e {c : Nat} {co f : Nat → Int} {l a t : Nat} (h : stepS c co f l a t) : nxS c co f l a = t := by
  unfold nxS
  rw [dif_pos ⟨t, h⟩]
  exact stepS_one (Classical.choose_spec (p := fun t => stepS c co f l a t) ⟨t, h⟩) h
/-- the tour: what is left and where one is, behind k steps -/
noncomputable def trS (c : Nat) (co f : Nat → Int) (l a : Nat) : Nat → Nat × Nat
  | 0 => (l, a)
  | k + 1 => (clr (trS c co f l a k).1 (nxS c co f (trS c co f l a k).1 (trS c co f l a k).2), nxS c co f (trS c co f l a k).1 (trS c co f l a k).2)
def lsI (co f : Nat → Int) (l a i : Nat) (le ch : Int) : Prop := (le = 1000000 ∧ ch = a ∧ ∀ s, s < i → ¬ tb l s) ∨ (∃ t : Nat, ch = t ∧ t < i ∧ tb l t ∧ le = vX co f l a t ∧ (∀ s, s < i → tb l s → vX co f l a t ≤ vX co f l a s) ∧ ∀ s, s < t → tb l s → vX co f l a t < vX co f l a s)
theorem clr_le (m j : Nat) : clr m j ≤ m := by
  unfold clr
  split
  · exact Nat.sub_le _ _
  · exact Nat.le_refl _
/-- the two tables say the same -/
theorem tab_same {c : Nat} {co co' f f' : Nat → Int} (hc : c < 10) (hco : ∀ i j, i < c → j < c → co (9 * i + j) = co' (9 * i + j)) (hX : tabX c co f) (hM : tabM c co' f') : ∀ l, l < 2 ^ c - 1 → ∀ a, a < c → ¬ tb l a → f (9 * l + a) = f' (9 * (2 ^ c - 1 - l) + a) := by
  refine byN _ (fun l ih hl a ha hta => ?_)
  have h2 := two_b c hc
  have x1 := (hX l (by omega) a ha hta).1
  have m1 := (hM (2 ^ c - 1 - l) (by omega) (by omega) a ha).1
  by_cases h0 : l = 0
  · rw [x1.1 h0, m1.1 (by omega)]
  · obtain ⟨xa, t, xt1, xt2, xt3⟩ := x1.2 h0
    obtain ⟨ma, h, mh1, mh2, mh3⟩ := m1.2 (by omega)
    have key : ∀ t, t < c → tb l t → vX co f l a t = vM co' f' (2 ^ c - 1 - l) a t := by
      intro t h1 h2
      unfold vX vM
      have q1 := clr_lt l (by omega) t (by omega) h2
      rw [hco a t ha h1, ih (clr l t) q1 (by omega) t h1 (clr_tb l (by omega) t (by omega)), ful_sto c hc l (by omega) t h1 h2]
    have q3 := ma t xt1 (fun z => (ful_tb c hc l (by omega) t xt1).mp z xt2)
    have q5 : tb l h := Classical.not_not.mp (fun z => mh2 ((ful_tb c hc l (by omega) h mh1).mpr z))
    have q4 := xa h mh1 q5
    rw [key t xt1 xt2] at xt3
    rw [key h mh1 q5] at q4
    omega
