/-! ===== the relation of class and model ===== -/
theorem aset_ap (g : AG) (k j : Nat) (v : Int) (k' : Nat) : aset g k j v k' = if k' = k then (fun j' => if j' = j then v else g k j') else g k' := by
  by_cases h : k' = k
  · subst h; rw [if_pos rfl, aset_at]
  · rw [if_neg h, aset_kn _ _ _ h]
theorem row_ap (g : AG) (k : Nat) (f : Nat → Int) (k' : Nat) : row g k f k' = if k' = k then f else g k' := rfl
def cm (g g1 : AG) : Prop := ∀ k, 21 ≤ k → g1 k = g k
theorem cm_r (g : AG) : cm g g := fun _ _ => rfl
theorem cm_a {g g1 : AG} {k j : Nat} {v : Int} (hk : k < 21) (h : cm g g1) : cm g (aset g1 k j v) := fun k' h' => by rw [aset_kn _ _ _ (by omega)]; exact h k' h'
theorem cm_w {g g1 : AG} {k : Nat} {f : Nat → Int} (hk : k < 21) (h : cm g g1) : cm g (row g1 k f) := fun k' h' => by rw [row_n _ _ (by omega)]; exact h k' h'
theorem cm_i {g a b : AG} {Q : Prop} [Decidable Q] (h1 : cm g a) (h2 : cm g b) : cm g (if Q then a else b) := by split <;> assumption
def sg (k : Nat) : Nat := if k < 24 then 40 + k else k - 24
def sgI (x : Int) : Int := if x < 24 then 40 + x else x - 24
def REye (c m : Int) (T P V F : Nat → Int) (c' : Int) (T' P' V' F' : Nat → Int) : Prop := (0 ≤ c ∧ c ≤ 100) ∧ m = cntB F c.toNat ∧ (∀ j, F j = 0 ∨ F j = 1) ∧ c' = c ∧ T' = T ∧ P' = P ∧ V' = V ∧ F' = F
def RKnt (G H G' H' : Nat → Int) : Prop := ∀ k, k < 64 → (0 ≤ G k ∧ G k < 64) ∧ G' (sg k) = sgI (G k) ∧ H' (sg k) = H k
def RLip (n nx bd mn sd : Int) (B S : Nat → Int) (n' nx' bd' mn' sd' : Int) (B' S' : Nat → Int) : Prop := lipI n nx bd mn sd B S ∧ n' = n ∧ nx' = nx ∧ bd' = bd ∧ mn' = mn ∧ sd' = sd ∧ B' = B ∧ S' = S
def RSet (c : Int) (Wd Pr Bo : Nat → Int) (c' : Int) (Wd' Pr' Bo' : Nat → Int) : Prop := setI c Wd Pr Bo ∧ c' = c ∧ Wd' = Wd ∧ Pr' = Pr ∧ Bo' = Bo
def RGrd (c : Int) (co : Nat → Int) (fl : Int) (tab : Nat → Int) (c' : Int) (co' : Nat → Int) : Prop := ((0 ≤ c ∧ c ≤ 9) ∧ (∀ j, 0 ≤ co j ∧ co j ≤ 1000) ∧ (fl = 0 ∨ fl = 1) ∧ (fl = 1 → tabX c.toNat co tab)) ∧ c' = c ∧ (∀ j, 0 ≤ co' j ∧ co' j ≤ 1000) ∧ (∀ i j : Nat, (i : Int) < c → (j : Int) < c → co' (9 * i + j) = co (9 * i + j)) ∧ ∀ i j : Nat, i < 9 → j < 9 → (c ≤ i ∨ c ≤ j) → co (9 * i + j) = 100
def rE (g : AG) : Prop := REye (g 1 4) (g 1 5) (g 2) (g 3) (g 4) (g 5) (g 21 1) (g 22) (g 23) (g 24) (g 25)
def rK (g : AG) : Prop := RKnt (g 6) (g 7) (g 26) (g 27)
def rL (g : AG) : Prop := RLip (g 8 2) (g 8 3) (g 8 4) (g 8 5) (g 8 6) (g 9) (g 10) (g 21 0) (g 21 10) (g 21 11) (g 21 12) (g 21 13) (g 28) (g 29)
def rS (g : AG) : Prop := RSet (g 12 4) (g 13) (g 14) (g 15) (g 21 14) (g 30) (g 31) (g 32)
def rG (g : AG) : Prop := RGrd (g 18 0) (g 19) (g 18 3) (g 20) (g 21 18) (g 33)
def Rel (g : AG) : Prop := rE g ∧ rK g ∧ rL g ∧ rS g ∧ rG g
def RM (g : AG) : Prop := LM g ∧ KM g ∧ GM g ∧ (0 ≤ g 21 1 ∧ g 21 1 ≤ 100) ∧ ∀ j, g 25 j = 0 ∨ g 25 j = 1
theorem Rel.lx {g : AG} (h : Rel g) : LX g := h.2.2.1.1
theorem Rel.kx {g : AG} (h : Rel g) : KX g := h.2.2.2.1.1
theorem Rel.gx {g : AG} (h : Rel g) : GX g := h.2.2.2.2.1
theorem Rel.rm {g g1 : AG} (h : Rel g) (e : cm g g1) : RM g1 := by
  obtain ⟨⟨E1, E2, E3, E4, E5, E6, E7, E8⟩, -, ⟨L1, L2, L3, L4, L5, L6, L7, L8⟩, ⟨S1, S2, S3, S4, S5⟩, ⟨G1, G2, G3, -⟩⟩ := h
  unfold RM LM KM GM
  rw [e 21 (by omega), e 25 (by omega), e 28 (by omega), e 29 (by omega), e 30 (by omega), e 31 (by omega), e 32 (by omega), e 33 (by omega), E4, E8, L2, L3, L4, L5, L6, L7, L8, S2, S3, S4, S5, G2]
  exact ⟨L1, S1, ⟨G1.1, G3⟩, E1, E3⟩
theorem sg_lt {k : Nat} (h : k < 64) : sg k < 64 := by unfold sg; split <;> omega
theorem sgI_in {x y : Int} (hx : 0 ≤ x ∧ x < 64) (hy : 0 ≤ y ∧ y < 64) : sgI x = sgI y ↔ x = y := by
  unfold sgI
  split <;> split <;> omega
theorem kn_eq {G H G' H' : Nat → Int} (h : RKnt G H G' H') {a b : Nat} (ha : a < 64) (hb : b < 64) : G' (sg a) = G' (sg b) ↔ G a = G b := by
  rw [(h a ha).2.1, (h b hb).2.1]
  exact sgI_in (h a ha).1 (h b hb).1
theorem kn_fit {G H G' H' : Nat → Int} (h : RKnt G H G' H') {a b : Nat} (ha : a < 64) (hb : b < 64) (v : Int) : fitP G' H' (sg a) (sg b) v ↔ fitP G H a b v := by
  unfold fitP
  rw [kn_eq h ha hb, (h a ha).2.2, (h b hb).2.2]
theorem kn_add {G H G' H' : Nat → Int} (h : RKnt G H G' H') {a b : Nat} (ha : a < 64) (hb : b < 64) (v : Int) : RKnt (fitU G a b 64) (fitH G H a b v) (fitU G' (sg a) (sg b) 64) (fitH G' H' (sg a) (sg b) v) := by
  intro k hk
  have q1 := kn_eq h hk hb
  have q2 := h k hk
  have q3 := h a ha
  have q4 := h b hb
  have q5 := sg_lt hk
  have q6 := kn_eq h ha hb
  refine ⟨?_, ?_, ?_⟩
  · unfold fitU
    split
    · exact q3.1
    · exact q2.1
  · unfold fitU
    by_cases e : G k = G b
    · rw [if_pos ⟨q5, q1.mpr e⟩, if_pos ⟨hk, e⟩]
      exact q3.2.1
    · rw [if_neg (fun z => e (q1.mp z.2)), if_neg (fun z => e z.2)]
      exact q2.2.1
  · unfold fitH
    by_cases e0 : G a = G b
    · rw [if_pos e0, if_pos (q6.mpr e0)]
      exact q2.2.2
    · rw [if_neg e0, if_neg (fun z => e0 (q6.mp z))]
      unfold fitV
      by_cases e : G k = G b
      · rw [if_pos ⟨q5, q1.mpr e⟩, if_pos ⟨hk, e⟩, q2.2.2, q3.2.2, q4.2.2]
      · rw [if_neg (fun z => e (q1.mp z.2)), if_neg (fun z => e z.2)]
        exact q2.2.2
theorem kn_new (G H G' H' : Nat → Int) : RKnt (fillU G 64 (fun j => (j : Int))) (fillU H 64 (fun _ => 0)) (fillU G' 64 (fun j => (j : Int))) (fillU H' 64 (fun _ => 0)) := by
  intro k hk
  have q5 := sg_lt hk
  unfold fillU
  rw [if_pos hk, if_pos q5, if_pos hk, if_pos q5]
  refine ⟨⟨Int.natCast_nonneg k, ?_⟩, ?_, rfl⟩
  · show (k : Int) < 64
    omega
  · show ((sg k : Nat) : Int) = sgI (k : Int)
    unfold sg sgI
    split <;> split <;> omega
theorem sg_t {t : Int} (h0 : 0 ≤ t) (h1 : t ≤ 39) : sg (24 + t).toNat = t.toNat := by
  unfold sg
  rw [if_neg (by omega)]
  omega
theorem sg_p {p : Int} (h0 : 0 ≤ p) (h1 : p < 24) : sg p.toNat = (40 + p).toNat := by
  unfold sg
  rw [if_pos (by omega)]
  omega
theorem sg_n {p : Nat} (h1 : p < 24) : sg p = 40 + p := if_pos h1
theorem cntG_c {G G' : Nat → Int} : ∀ n : Nat, (∀ i j, i < n → j < n → (G i = G j ↔ G' i = G' j)) → cntG G n = cntG G' n
  | 0, _ => rfl
  | n + 1, h => by
    have ih := cntG_c (G := G) (G' := G') n (fun i j hi hj => h i j (by omega) (by omega))
    have e : fst1 G n ↔ fst1 G' n := by
      constructor
      · intro z j hj q
        exact z j hj ((h j n (by omega) (by omega)).mpr q)
      · intro z j hj q
        exact z j hj ((h j n (by omega) (by omega)).mp q)
    show cntG G n + cif (fst1 G n) 1 0 = cntG G' n + cif (fst1 G' n) 1 0
    rw [ih, cif_c e]
theorem fillU_c {f h h' : Nat → Int} {n : Nat} (e : ∀ j, j < n → h j = h' j) : fillU f n h = fillU f n h' := by
  funext j
  unfold fillU
  split
  · rename_i q; exact e j q
  · rfl
theorem cntB_c {f f' : Nat → Int} : ∀ n : Nat, (∀ j, j < n → f j = f' j) → cntB f n = cntB f' n
  | 0, _ => rfl
  | n + 1, h => by
    unfold cntB
    rw [cntB_c n (fun j hj => h j (by omega)), h n (by omega)]
theorem frU_c {B B' Wd : Nat → Int} : ∀ p : Nat, (∀ j, j < p → B j = B' j) → frU B Wd p = frU B' Wd p
  | 0, _ => rfl
  | p + 1, h => by
    unfold frU
    rw [frU_c p (fun j hj => h j (by omega)), h p (by omega)]
theorem drU_c {B B' Wd : Nat → Int} {n p : Nat} (hp : p < n) (h : ∀ j, j < n → B j = B' j) : drU B Wd n p = drU B' Wd n p := by
  unfold drU
  rw [frU_c p (fun j hj => h j (by omega)), h p hp]
/-- the two tours go the same way -/
theorem tr_same {c : Nat} {co co' f f' : Nat → Int} (hc : c < 10) (hco : ∀ i j, i < c → j < c → co (9 * i + j) = co' (9 * i + j)) (hX : tabX c co f) (hM : tabM c co' f') {p : Nat} (hp : p < c) : ∀ k : Nat, k < c → ∃ l a, trS c co f (clr (2 ^ c - 1) p) p k = (l, a) ∧ trM c co' f' (2 ^ p) p k = (2 ^ c - 1 - l, a) ∧ l < 2 ^ c - 1 ∧ a < c ∧ ¬ tb l a ∧ pop l + k + 1 = c
  | 0, _ => by
    have q := ful_clr c hc p hp
    have q2 := two_b c hc
    have q3 := two_b p (by omega)
    refine ⟨clr (2 ^ c - 1) p, p, rfl, ?_, by omega, hp, q.2.2.2.1, by omega⟩
    show (2 ^ p, p) = _
    rw [q.1]
  | k + 1, hk => by
    obtain ⟨l, a, e1, e2, h1, h2, h3, h4⟩ := tr_same hc hco hX hM hp k (by omega)
    have h5 := two_b c hc
    have hl0 : l ≠ 0 := by
      intro z
      subst z
      have : pop 0 = 0 := rfl
      omega
    have x1 := (hX l (by omega) a h2 h3).1
    obtain ⟨xa, t0, xt1, xt2, xt3⟩ := x1.2 hl0
    have key : ∀ t, t < c → tb l t → vX co f l a t = vM co' f' (2 ^ c - 1 - l) a t := by
      intro t q1 q2
      unfold vX vM
      have q3 := clr_lt l (by omega) t (by omega) q2
      rw [hco a t h2 q1, tab_same hc hco hX hM (clr l t) (by omega) t q1 (clr_tb l (by omega) t (by omega)), ful_sto c hc l (by omega) t q1 q2]
    have hf : f (9 * l + a) = f' (9 * (2 ^ c - 1 - l) + a) := tab_same hc hco hX hM l h1 a h2 h3
    have ex : ∀ n, (∃ t, t ≤ n ∧ t < c ∧ tb l t ∧ f (9 * l + a) = vX co f l a t) → ∃ t, t < c ∧ tb l t ∧ f (9 * l + a) = vX co f l a t ∧ ∀ s, s < t → tb l s → f (9 * l + a) ≠ vX co f l a s := by
      refine byN _ (fun n ih => ?_)
      rintro ⟨t, q1, q2, q3, q4⟩
      by_cases z : ∀ s, s < t → tb l s → f (9 * l + a) ≠ vX co f l a s
      · exact ⟨t, q2, q3, q4, z⟩
      · have z2 : ∃ s, s < t ∧ tb l s ∧ f (9 * l + a) = vX co f l a s := by
          apply Classical.byContradiction
          intro w
          exact z (fun s s1 s2 s3 => w ⟨s, s1, s2, s3⟩)
        obtain ⟨s, s1, s2, s3⟩ := z2
        exact ih s (by omega) ⟨s, Nat.le_refl _, by omega, s2, s3⟩
    obtain ⟨t, t1, t2, t3, t4⟩ := ex t0 ⟨t0, Nat.le_refl _, xt1, xt2, xt3⟩
    have sS : stepS c co f l a t := ⟨t1, t2, fun s q1 q2 => by rw [← t3]; exact xa s q1 q2, fun s q1 q2 => by
      have q3 := xa s (by omega) q2
      have q4 := t4 s q1 q2
      omega⟩
    have sM : stepM c co' f' (2 ^ c - 1 - l) a t := ⟨t1, fun z => (ful_tb c hc l (by omega) t t1).mp z t2, by rw [← key t t1 t2, ← hf]; exact t3.symm, fun k q1 q2 q3 => by
      have q4 : tb l k := Classical.not_not.mp (fun z => q2 ((ful_tb c hc l (by omega) k (by omega)).mpr z))
      rw [← key k (by omega) q4, ← hf] at q3
      exact t4 k q1 q4 q3.symm⟩
    refine ⟨clr l t, t, ?_, ?_, ?_, t1, clr_tb l (by omega) t (by omega), ?_⟩
    · show (clr (trS c co f (clr (2 ^ c - 1) p) p k).1 (nxS c co f (trS c co f (clr (2 ^ c - 1) p) p k).1 (trS c co f (clr (2 ^ c - 1) p) p k).2), nxS c co f (trS c co f (clr (2 ^ c - 1) p) p k).1 (trS c co f (clr (2 ^ c - 1) p) p k).2) = _
      rw [e1]
      show (clr l (nxS c co f l a), nxS c co f l a) = _
      rw [nxS_e sS]
    · show (sto (trM c co' f' (2 ^ p) p k).1 (nxM c co' f' (trM c co' f' (2 ^ p) p k).1 (trM c co' f' (2 ^ p) p k).2), nxM c co' f' (trM c co' f' (2 ^ p) p k).1 (trM c co' f' (2 ^ p) p k).2) = _
      rw [e2]
      show (sto (2 ^ c - 1 - l) (nxM c co' f' (2 ^ c - 1 - l) a), nxM c co' f' (2 ^ c - 1 - l) a) = _
      rw [nxM_e sM, ful_sto c hc l (by omega) t t1 t2]
    · have := clr_lt l (by omega) t (by omega) t2
      omega
    · have := clr_pop l (by omega) t (by omega) t2
      omega
theorem tour_same {c : Nat} {co co' f f' : Nat → Int} (hc : c < 10) (hco : ∀ i j, i < c → j < c → co (9 * i + j) = co' (9 * i + j)) (hX : tabX c co f) (hM : tabM c co' f') {p : Nat} (hp : p < c) : f (9 * clr (2 ^ c - 1) p + p) = f' (9 * 2 ^ p + p) := by
  have q := ful_clr c hc p hp
  have q2 := two_b c hc
  have q3 := two_b p (by omega)
  rw [tab_same hc hco hX hM (clr (2 ^ c - 1) p) (by omega) p hp q.2.2.2.1, q.1]
