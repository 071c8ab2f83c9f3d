/-! ===== pure words: the tables of the tour ===== -/
def GX (g : AG) : Prop := (0 ≤ g 18 0 ∧ g 18 0 ≤ 9) ∧ (∀ j, 0 ≤ g 19 j ∧ g 19 j ≤ 1000) ∧ (g 18 3 = 0 ∨ g 18 3 = 1) ∧ (g 18 3 = 1 → tabX (g 18 0).toNat (g 19) (g 20))
def GM (g : AG) : Prop := (0 ≤ g 21 18 ∧ g 21 18 ≤ 9) ∧ ∀ j, 0 ≤ g 33 j ∧ g 33 j ≤ 1000
def prtX (c : Nat) (co f : Nat → Int) (l a : Nat) : Prop := ∀ l' a', (l' < l ∨ (l' = l ∧ a' < a)) → a' < c → ¬ tb l' a' → okX c co f l' a'
theorem vX_up {co f : Nat → Int} {l l' a' t a : Nat} {v : Int} (hl : l < 512) (hl' : l' ≤ l) (ht : t < 9) (hb : tb l' t) : vX co (fun j => if j = 9 * l + a then v else f j) l' a' t = vX co f l' a' t := by
  have q := clr_lt l' (by omega) t ht hb
  unfold vX
  dsimp only
  rw [if_neg (by omega)]
theorem okX_up {c : Nat} {co f : Nat → Int} {l l' a' a : Nat} {v : Int} (hc : c < 10) (hl : l < 512) (hl' : l' ≤ l) (hne : 9 * l' + a' ≠ 9 * l + a) (h : okX c co f l' a') : okX c co (fun j => if j = 9 * l + a then v else f j) l' a' := by
  obtain ⟨⟨h1, h2⟩, h3, h4⟩ := h
  unfold okX minX
  dsimp only
  rw [if_neg hne]
  refine ⟨⟨h1, fun z => ?_⟩, h3, h4⟩
  obtain ⟨q1, t, q2, q3, q4⟩ := h2 z
  exact ⟨fun t t1 t2 => by rw [vX_up hl hl' (by omega) t2]; exact q1 t t1 t2, t, q2, q3, by rw [vX_up hl hl' (by omega) q3]; exact q4⟩
theorem prtX_s {c : Nat} {co f : Nat → Int} {l a : Nat} {v : Int} (hc : c < 10) (hl : l < 512) (ha : a < c) (h : prtX c co f l a) (hv : minX c co f l a v ∧ 0 ≤ v ∧ v ≤ 1000 * (pop l : Int)) : prtX c co (fun j => if j = 9 * l + a then v else f j) l (a + 1) := by
  intro l' a' q1 q2 q3
  by_cases e : l' = l ∧ a' = a
  · obtain ⟨e1, e2⟩ := e
    subst e1; subst e2
    obtain ⟨⟨h1, h2⟩, h3, h4⟩ := hv
    unfold okX minX
    dsimp only
    rw [if_pos rfl]
    refine ⟨⟨h1, fun z => ?_⟩, h3, h4⟩
    obtain ⟨q1, t, q2, q3, q4⟩ := h2 z
    exact ⟨fun t t1 t2 => by rw [vX_up hl (Nat.le_refl _) (by omega) t2]; exact q1 t t1 t2, t, q2, q3, by rw [vX_up hl (Nat.le_refl _) (by omega) q3]; exact q4⟩
  · exact okX_up hc hl (by omega) (by omega) (h l' a' (by omega) q2 q3)
theorem prtX_b {c : Nat} {co f : Nat → Int} {l a t : Nat} (hc : c < 10) (hl : l < 512) (ht : t < c) (hb : tb l t) (h : prtX c co f l a) : 0 ≤ f (9 * clr l t + t) ∧ f (9 * clr l t + t) ≤ 1000 * (pop l : Int) - 1000 ∧ f (9 * clr l t + t) ≤ 9000 := by
  have q1 := clr_lt l hl t (by omega) hb
  have q2 := clr_pop l hl t (by omega) hb
  have q3 := (h (clr l t) t (Or.inl q1) ht (clr_tb l hl t (by omega))).2
  have q4 := (pop_b l hl).1
  omega
theorem prtX_n {c : Nat} {co f : Nat → Int} {l a : Nat} (hb : tb l a) (h : prtX c co f l a) : prtX c co f l (a + 1) := by
  intro l' a' q1 q2 q3
  by_cases e : l' = l ∧ a' = a
  · obtain ⟨e1, e2⟩ := e
    subst e1; subst e2
    exact absurd hb q3
  · exact h l' a' (by omega) q2 q3
theorem prtX_c {c : Nat} {co f : Nat → Int} {l : Nat} (h : prtX c co f l c) : prtX c co f (l + 1) 0 := fun l' a' q1 q2 q3 => h l' a' (by omega) q2 q3
/-- the least there is, from a step that is the least -/
theorem minX_of {c : Nat} {co f : Nat → Int} {l a t : Nat} (h0 : l ≠ 0) (h : stepS c co f l a t) : minX c co f l a (vX co f l a t) := ⟨fun z => absurd z h0, fun _ => ⟨h.2.2.1, t, h.1, h.2.1, rfl⟩⟩
/-! the model's -/
def prtM (c : Nat) (co f : Nat → Int) (s a : Nat) : Prop := ∀ s' a', (s < s' ∨ (s' = s ∧ a' < a)) → s' < 2 ^ c → a' < c → okM c co f s' a'
theorem vM_up {co f : Nat → Int} {s s' a' h a : Nat} {v : Int} (hs : s' < 512) (hl : s ≤ s') (ha : a < 9) (hh : h < 9) (hb : ¬ tb s' h) : vM co (fun j => if j = 9 * s + a then v else f j) s' a' h = vM co f s' a' h := by
  have q := (sto_pop s' hs h hh hb).2
  unfold vM
  dsimp only
  rw [if_neg (by omega)]
theorem okM_up {c : Nat} {co f : Nat → Int} {s s' a' a : Nat} {v : Int} (hc : c < 10) (hs : s' < 512) (hl : s ≤ s') (ha : a < 9) (hne : 9 * s' + a' ≠ 9 * s + a) (h : okM c co f s' a') : okM c co (fun j => if j = 9 * s + a then v else f j) s' a' := by
  obtain ⟨⟨h1, h2⟩, h3, h4⟩ := h
  unfold okM minM
  dsimp only
  rw [if_neg hne]
  refine ⟨⟨h1, fun z => ?_⟩, h3, h4⟩
  obtain ⟨q1, t, q2, q3, q4⟩ := h2 z
  exact ⟨fun t t1 t2 => by rw [vM_up hs hl ha (by omega) t2]; exact q1 t t1 t2, t, q2, q3, by rw [vM_up hs hl ha (by omega) q3]; exact q4⟩
theorem prtM_s {c : Nat} {co f : Nat → Int} {s a : Nat} {v : Int} (hc : c < 10) (hs : s < 2 ^ c) (ha : a < c) (h : prtM c co f s a) (hv : minM c co f s a v ∧ 0 ≤ v ∧ v ≤ 1000 * (9 - (pop s : Int))) : prtM c co (fun j => if j = 9 * s + a then v else f j) s (a + 1) := by
  have h2 := two_b c hc
  intro s' a' q1 q2 q3
  by_cases e : s' = s ∧ a' = a
  · obtain ⟨e1, e2⟩ := e
    subst e1; subst e2
    obtain ⟨⟨h1, h2⟩, h3, h4⟩ := hv
    unfold okM minM
    dsimp only
    rw [if_pos rfl]
    refine ⟨⟨h1, fun z => ?_⟩, h3, h4⟩
    obtain ⟨q1, t, q2, q3, q4⟩ := h2 z
    exact ⟨fun t t1 t2 => by rw [vM_up (by omega) (Nat.le_refl _) (by omega) (by omega) t2]; exact q1 t t1 t2, t, q2, q3, by rw [vM_up (by omega) (Nat.le_refl _) (by omega) (by omega) q3]; exact q4⟩
  · exact okM_up hc (by omega) (by omega) (by omega) (by omega) (h s' a' (by omega) q2 q3)
theorem prtM_b {c : Nat} {co f : Nat → Int} {s a h : Nat} (hc : c < 10) (hs : s < 2 ^ c) (hh : h < c) (hb : ¬ tb s h) (hp : prtM c co f s a) : 0 ≤ f (9 * sto s h + h) ∧ f (9 * sto s h + h) ≤ 1000 * (9 - (pop s : Int)) - 1000 ∧ f (9 * sto s h + h) ≤ 9000 := by
  have h2 := two_b c hc
  have q1 := sto_pop s (by omega) h (by omega) hb
  have q3 := (hp (sto s h) h (Or.inl q1.2) (sto_lt c hc s hs h hh) hh).2
  omega
theorem prtM_c {c : Nat} {co f : Nat → Int} {s : Nat} (h : prtM c co f (s + 1) c) : prtM c co f s 0 := fun s' a' q1 q2 q3 => h s' a' (by omega) q2 q3
/-- the model's least so far, behind k grades -/
def mnI (c : Nat) (co f : Nat → Int) (s a k : Nat) (b : Int) : Prop := (s = 2 ^ c - 1 ∧ b = 0) ∨ (s ≠ 2 ^ c - 1 ∧ ((b = -1 ∧ ∀ h, h < k → tb s h) ∨ (0 ≤ b ∧ (∀ h, h < k → ¬ tb s h → b ≤ vM co f s a h) ∧ ∃ h, h < k ∧ ¬ tb s h ∧ b = vM co f s a h)))
theorem mnI_skip {c : Nat} {co f : Nat → Int} {s a k : Nat} {b : Int} (ht : tb s k) (h : mnI c co f s a k b) : mnI c co f s a (k + 1) b := by
  rcases h with h | ⟨h1, h2⟩
  · exact Or.inl h
  · refine Or.inr ⟨h1, ?_⟩
    rcases h2 with ⟨e1, e2⟩ | ⟨e1, e2, j, e3, e4, e5⟩
    · refine Or.inl ⟨e1, fun h q => ?_⟩
      by_cases e : h = k
      · subst e; exact ht
      · exact e2 h (by omega)
    · refine Or.inr ⟨e1, fun h q q2 => ?_, j, by omega, e4, e5⟩
      by_cases e : h = k
      · subst e; exact absurd ht q2
      · exact e2 h (by omega) q2
theorem mnI_take {c : Nat} {co f : Nat → Int} {s a k : Nat} {b : Int} (hf : s ≠ 2 ^ c - 1) (ht : ¬ tb s k) (h0 : 0 ≤ vM co f s a k) (hlt : b < 0 ∨ vM co f s a k < b) (h : mnI c co f s a k b) : mnI c co f s a (k + 1) (vM co f s a k) := by
  rcases h with h | ⟨h1, h2⟩
  · exact absurd h.1 hf
  · refine Or.inr ⟨h1, Or.inr ⟨h0, fun h q q2 => ?_, k, by omega, ht, rfl⟩⟩
    by_cases e : h = k
    · subst e; exact Int.le_refl _
    · rcases h2 with ⟨e1, e2⟩ | ⟨e1, e2, j, e3, e4, e5⟩
      · exact absurd (e2 h (by omega)) q2
      · have := e2 h (by omega) q2
        omega
theorem mnI_keep {c : Nat} {co f : Nat → Int} {s a k : Nat} {b : Int} (hf : s ≠ 2 ^ c - 1) (h0 : ¬ b < 0) (hle : ¬ vM co f s a k < b) (h : mnI c co f s a k b) : mnI c co f s a (k + 1) b := by
  rcases h with h | ⟨h1, h2⟩
  · exact absurd h.1 hf
  · refine Or.inr ⟨h1, ?_⟩
    rcases h2 with ⟨e1, e2⟩ | ⟨e1, e2, j, e3, e4, e5⟩
    · omega
    · refine Or.inr ⟨e1, fun h q q2 => ?_, j, by omega, e4, e5⟩
      by_cases e : h = k
      · subst e; omega
      · exact e2 h (by omega) q2
theorem full_tb {c s h : Nat} (hc : c < 10) (hh : h < c) (hs : s = 2 ^ c - 1) : tb s h := by
  have h2 := two_b c hc
  have q := (ful_tb c hc 0 (by omega) h hh).mpr (by unfold tb; simp)
  rw [hs]
  simpa using q
theorem not_full {c s : Nat} (hc : c < 10) (hs : s < 2 ^ c) (hf : s ≠ 2 ^ c - 1) : ∃ h, h < c ∧ ¬ tb s h := by
  obtain ⟨j, j1, j2⟩ := some_tb c hc (2 ^ c - 1 - s) (by omega) (by omega)
  exact ⟨j, j1, (ful_tb c hc s hs j j1).mp j2⟩
theorem mnI_end {c : Nat} {co f : Nat → Int} {s a : Nat} {b : Int} (hc : c < 10) (hs : s < 2 ^ c) (hco : ∀ j, 0 ≤ co j ∧ co j ≤ 1000) (hp : prtM c co f s a) (h : mnI c co f s a c b) : minM c co f s a b ∧ 0 ≤ b ∧ b ≤ 1000 * (9 - (pop s : Int)) := by
  have hb := (pop_b s (by have := two_b c hc; omega)).1
  rcases h with ⟨h1, h2⟩ | ⟨h1, h2⟩
  · exact ⟨⟨fun _ => h2, fun z => absurd h1 z⟩, by omega, by omega⟩
  · rcases h2 with ⟨e1, e2⟩ | ⟨e1, e2, j, e3, e4, e5⟩
    · obtain ⟨j, j1, j2⟩ := not_full hc hs h1
      exact absurd (e2 j j1) j2
    · refine ⟨⟨fun z => absurd z h1, fun _ => ⟨e2, j, e3, e4, e5⟩⟩, e1, ?_⟩
      have q := prtM_b hc hs e3 e4 hp
      have q2 := hco (9 * a + j)
      rw [e5]
      unfold vM
      omega
def stepM (c : Nat) (co f : Nat → Int) (s a h : Nat) : Prop := h < c ∧ ¬ tb s h ∧ vM co f s a h = f (9 * s + a) ∧ ∀ k, k < h → ¬ tb s k → vM co f s a k ≠ f (9 * s + a)
theorem stepM_one {c : Nat} {co f : Nat → Int} {s a t u : Nat} (h : stepM c co f s a t) (h' : stepM c co f s a u) : t = u := by
  obtain ⟨a1, a2, a3, a4⟩ := h
  obtain ⟨b1, b2, b3, b4⟩ := h'
  rcases Nat.lt_trichotomy t u with q | q | q
  · exact absurd a3 (b4 t q a2)
  · exact q
  · exact absurd b3 (a4 u q b2)
noncomputable def nxM (c : Nat) (co f : Nat → Int) (s a : Nat) : Nat := @dite Nat (∃ t, stepM c co f s a t) (Classical.propDecidable _) (fun h => Classical.choose h) (fun _ => a)
theorem nxM_e {c : Nat} {co f : Nat → Int} {s a t : Nat} (h : stepM c co f s a t) : nxM c co f s a = t := by
  unfold nxM
  rw [dif_pos ⟨t, h⟩]
  exact stepM_one (Classical.choose_spec (p := fun t => stepM c co f s a t) ⟨t, h⟩) h
noncomputable def trM (c : Nat) (co f : Nat → Int) (s a : Nat) : Nat → Nat × Nat
  | 0 => (s, a)
  | k + 1 => (sto (trM c co f s a k).1 (nxM c co f (trM c co f s a k).1 (trM c co f s a k).2), nxM c co f (trM c co f s a k).1 (trM c co f s a k).2)
