theorem row_row (g : AG) (k : Nat) (f f' : Nat → Int) : row (row g k f) k f' = row g k f' := by
  funext k'
  unfold row
  by_cases h : k' = k <;> simp [h]
theorem sz_erc {g : AG} {s : Int} {f S : Nat → Int} {i : Nat} (hi : (i : Int) + 1 < g 8 2) : szX (row (row g 11 f) 10 S) (i : Int) = erc (dX g s) i (if i = 0 then 0 else S (i - 1)) (S i) (S (i + 1)) := by
  show (((eP (g 9) S (g 8 5) (g 8 6) (g 8 2) (i : Int)).natAbs : Nat) : Int) = (((er0 (dX g s) i (if i = 0 then 0 else S (i - 1)) (S i) + g 8 6 * S (i + 1)).natAbs : Nat) : Int)
  have e : eP (g 9) S (g 8 5) (g 8 6) (g 8 2) (i : Int) = er0 (dX g s) i (if i = 0 then 0 else S (i - 1)) (S i) + g 8 6 * S (i + 1) := by
    unfold eP er0
    rw [if_pos (show (i : Int) < g 8 2 - 1 by omega), show ((i : Int) + 1).toNat = i + 1 by omega, show ((i : Int)).toNat = i by omega]
    by_cases h : i = 0
    · subst h
      simp
      rfl
    · rw [if_pos (show 0 < (i : Int) by omega), if_neg h, if_neg h, show ((i : Int) - 1).toNat = i - 1 by omega]
      rfl
  rw [e]
def tbB (D : BD) (n : Nat) (f : Nat → Int) (i : Int) : Prop := ∀ p : Nat, i < p → p + 1 ≤ n → ∀ a b, -10 ≤ a ∧ a ≤ 10 → -10 ≤ b ∧ b ≤ 10 → ((a - b).natAbs : Int) ≤ D.2.2.2.1 → f (sp3 (p : Int) a b) = bV D (n - 1 - p) p a b
theorem fillU_u (F : Nat → Int) (xs : Nat → Int) (k : Nat) (c : Int) : (fun j => if j = k then c else fillU F k xs j) = fillU F (k + 1) (fun j => if j = k then c else xs j) := by
  funext j
  unfold fillU
  by_cases e : j = k
  · subst e; simp
  · have : j < k + 1 ↔ j < k := by omega
    simp [e, this]
theorem bst_L {D : BD} (hD : dI D) {n : Nat} {L : Int} {xs : Nat → Int} {k : Nat} (h2 : 2 ≤ n) (hn : n ≤ 24) (h : bstQ D n L xs k) : 0 ≤ L ∧ L ≤ 55200 := by
  have q := bV_b hD (n - 1) 0 0 (xs 0) ⟨by omega, by omega⟩ ⟨h.1.1, h.1.2.1⟩
  have e := h.1.2.2.2.1
  have q2 := q.2.2 (by have := h.1.2.2.1; omega)
  omega
set_option maxHeartbeats 4000000 in
set_option maxRecDepth 100000 in
theorem ct_X2_settle {s : Int} {g : AG} (h : LX g ∧ (s = 0 ∨ s = 1)) : MetI yX2_settle wsX2_settle rmX2_settle ShW [.inr 8, .inl s] g (fun x g' => ∃ (L : Int) (xs f : Nat → Int), bstQ (dX g s) (g 8 2).toNat L xs ((g 8 2).toNat - 1) ∧ x = L ∧ g' = row (row g 11 f) 10 (fillU (g 10) (g 8 2).toNat xs)) := by
  refine metI_of (cc := cX2_settle) (nL := 5) false (by decide +kernel) rfl (Nat.le_of_ble_eq_true rfl) (fun q J C => ?_)
  show J q ShW 0 0 0 [some (.inr 8), some (.inl s), none, none, none] [] g
  refine j_wf C (fun hw => ?_)
  obtain ⟨hL, hs⟩ := h
  have hn := hL.1
  have hnx := hL.2.1
  have hbd := hL.2.2.1
  have hD := dI_X hL hs
  have hSr := hL.2.2.2.2.2.2
  have hWb : ∀ (d p : Nat) b c, -10 ≤ b → b ≤ 10 → -10 ≤ c → c ≤ 10 → 0 ≤ bV (dX g s) d p b c ∧ bV (dX g s) d p b c ≤ 1000000 := fun d p b c q1 q2 q3 q4 => ⟨(bV_b hD d p b c ⟨q1, q2⟩ ⟨q3, q4⟩).1, (bV_b hD d p b c ⟨q1, q2⟩ ⟨q3, q4⟩).2.1⟩
  have lp2 : ∀ (f : Nat → Int), tbB (dX g s) (g 8 2).toNat f 0 → ∀ k : Nat, ∀ (i : Nat) (L sp : Int) (xs : Nat → Int), (g 8 2).toNat - i = k → 1 ≤ i → i + 1 ≤ (g 8 2).toNat → bstQ (dX g s) (g 8 2).toNat L xs i → sp = spn (dX g s) xs i → J q ShW 0 0 43 [some (.inr 8), some (.inl s), some (.inl L), some (.inl sp), some (.inl (i : Int))] [] (row (row g 11 f) 10 (fillU (g 10) (i + 1) xs)) := by
    intro f hf
    refine byN _ (fun k ih i L sp xs hk hi1 hi2 hB hsp => ?_)
    have hxr := bstQ_r hB
    have hLb := bst_L hD (by omega) (by omega) hB
    have hinv := bstQ_inv hD hi2 hB i (Nat.le_refl _)
    rw [if_neg (show ¬ i = 0 by omega), ← hsp] at hinv
    have hS1 : ∀ j, -10 ≤ fillU (g 10) (i + 1) xs j ∧ fillU (g 10) (i + 1) xs j ≤ 10 := fun j => by
      unfold fillU
      split
      · exact hxr j (by omega)
      · exact hSr j
    have hL1 : LX (row (row g 11 f) 10 (fillU (g 10) (i + 1) xs)) := LX_row hL hS1
    have e82 : (row (row g 11 f) 10 (fillU (g 10) (i + 1) xs)) 8 2 = g 8 2 := rfl
    have es1 : (row (row g 11 f) 10 (fillU (g 10) (i + 1) xs)) 10 ((i : Int) - 1).toNat = xs (i - 1) := by
      rw [row_s, show ((i : Int) - 1).toNat = i - 1 by omega]
      unfold fillU
      rw [if_pos (by omega)]
    have es0 : (row (row g 11 f) 10 (fillU (g 10) (i + 1) xs)) 10 ((i : Int)).toNat = xs i := by
      rw [row_s, show ((i : Int)).toNat = i by omega]
      unfold fillU
      rw [if_pos (by omega)]
    refine j_iload C dX2_settle_43 rfl ?_
    refine j_aload_n C dX2_settle_45 rfl ?_
    refine j_getI C fX2_settle_18 rfl rfl dX2_settle_46 ?_
    rw [e82]
    refine j_iconst C dX2_settle_49 ?_
    refine j_isub C dX2_settle_50 ?_
    refine j_icmp_ge C (tgt := 90) dX2_settle_51 (by decide) (by refine ⟨?_, ?_⟩ <;> omega) (by refine ⟨?_, ?_⟩ <;> omega) (fun c_51 => ?_) (fun c_51 => ?_)
    · refine j_iload_n C dX2_settle_90 rfl ?_
      refine j_iretI C dX2_settle_91 (by intro h; cases h) (fun hw9 => ?_)
      refine ⟨L, xs, f, ?_, rfl, ?_⟩
      · rw [show (g 8 2).toNat - 1 = i by omega]
        exact hB
      · rw [show (g 8 2).toNat = i + 1 by omega]
    · refine j_aload_n C dX2_settle_54 rfl ?_
      refine j_getR C fX2_settle_15 rfl rfl dX2_settle_55 ?_
      refine j_iload C dX2_settle_58 rfl ?_
      refine j_iconst C dX2_settle_60 ?_
      refine j_iadd C dX2_settle_61 ?_
      refine j_aload_n C dX2_settle_62 rfl ?_
      refine j_iload C dX2_settle_63 rfl ?_
      refine j_iload_n C dX2_settle_65 rfl ?_
      refine j_iload_n C dX2_settle_66 rfl ?_
      refine j_iload_n C dX2_settle_67 rfl ?_
      refine j_callVi4 C vX2_settle_78 rfl rfl (Nat.le_of_ble_eq_true rfl) ⟨Nat.zero_le _, Nat.zero_le _⟩ dX2_settle_68 (ct_X2_lesserAfter (W := bV (dX g s) ((g 8 2).toNat - 2 - i) (i + 1)) ⟨hL1, hs, by omega, (show (i : Int) ≤ g 8 2 - 2 by omega), es1, es0, hinv.1, by have := hinv.2.1; omega, hLb.1, by omega, fun c q1 q2 q3 => (by have z := hf (i + 1) (by omega) (by omega) (xs i) c (hxr i (Nat.le_refl _)) ⟨q1, q2⟩ q3; rw [show (g 8 2).toNat - 1 - (i + 1) = (g 8 2).toNat - 2 - i by omega] at z; exact z), fun c q1 q2 => hWb _ _ _ _ (hxr i (Nat.le_refl _)).1 (hxr i (Nat.le_refl _)).2 q1 q2⟩) (fun x_68 g_68 hk_68 => ?_)
      obtain ⟨e_68, h1_68, h2_68⟩ := hk_68
      have e_68 := e_68.symm
      subst e_68
      have hxi := hxr i (Nat.le_refl _)
      have hxi1 := hxr (i - 1) (by omega)
      have hok : ∀ x, (-10 ≤ x ∧ x ≤ 10 ∧ okc (dX g s) i (xs (i - 1)) (xs i) x) ↔ max (-10) (max (xs i - g 8 3) (2 * xs i - xs (i - 1) - g 8 4)) ≤ x ∧ x ≤ min 10 (min (xs i + g 8 3) (2 * xs i - xs (i - 1) + g 8 4)) := fun x => okc_iff (by omega)
      have hfg : fgd (dX g s) (bV (dX g s) ((g 8 2).toNat - 2 - i) (i + 1)) i (spn (dX g s) xs i) L (xs (i - 1)) (xs i) x_68 := by
        rw [← hsp]
        have hinv2 := hinv
        rw [show (g 8 2).toNat - 1 - i = ((g 8 2).toNat - 2 - i) + 1 by omega] at hinv2
        obtain ⟨c0, hc0⟩ := inv_ex hD hxi1 hxi hinv2
        have h1 : ∀ c, max (-10) (max (xs i - g 8 3) (2 * xs i - xs (i - 1) - g 8 4)) ≤ c → c < x_68 → ¬ tog s (tog s sp (erc (dX g s) i (xs (i - 1)) (xs i) c)) (bV (dX g s) ((g 8 2).toNat - 2 - i) (i + 1) (xs i) c) ≤ L := h1_68
        have h2 : (max (-10) (max (xs i - g 8 3) (2 * xs i - xs (i - 1) - g 8 4)) ≤ x_68 ∧ x_68 < min 10 (min (xs i + g 8 3) (2 * xs i - xs (i - 1) + g 8 4)) ∧ tog s (tog s sp (erc (dX g s) i (xs (i - 1)) (xs i) x_68)) (bV (dX g s) ((g 8 2).toNat - 2 - i) (i + 1) (xs i) x_68) ≤ L) ∨ x_68 = min 10 (min (xs i + g 8 3) (2 * xs i - xs (i - 1) + g 8 4)) := h2_68
        have hlow : ∀ x, x < x_68 → ¬ gdc (dX g s) (bV (dX g s) ((g 8 2).toNat - 2 - i) (i + 1)) i sp L (xs (i - 1)) (xs i) x := fun x hx hg => by
          have q := (hok x).mp ⟨hg.1, hg.2.1, hg.2.2.1⟩
          exact h1 x q.1 hx hg.2.2.2
        refine ⟨?_, hlow⟩
        rcases h2 with ⟨z1, z2, z3⟩ | z
        · have q := (hok x_68).mpr ⟨z1, by omega⟩
          exact ⟨q.1, q.2.1, q.2.2, z3⟩
        · have q0 := (hok c0).mp ⟨hc0.1, hc0.2.1, hc0.2.2.1⟩
          by_cases e : c0 < x_68
          · exact absurd hc0 (hlow c0 e)
          · rw [show x_68 = c0 by omega]
            exact hc0
      have hcr : -10 ≤ x_68 ∧ x_68 ≤ 10 := ⟨hfg.1.1, hfg.1.2.1⟩
      have hB2 : bstQ (dX g s) (g 8 2).toNat L (fun j => if j = i + 1 then x_68 else xs j) (i + 1) := bstQ_s hB (by rw [if_neg (show ¬ i = 0 by omega)]; exact hfg)
      have est : aset (row (row g 11 f) 10 (fillU (g 10) (i + 1) xs)) 10 ((i : Int) + 1).toNat x_68 = row (row g 11 f) 10 (fillU (g 10) (i + 1 + 1) (fun j => if j = i + 1 then x_68 else xs j)) := by
        rw [← fillU_u, show ((i : Int) + 1).toNat = i + 1 by omega, aset_row, row_s, row_row]
      have hS2 : ∀ j, -10 ≤ fillU (g 10) (i + 1 + 1) (fun j => if j = i + 1 then x_68 else xs j) j ∧ fillU (g 10) (i + 1 + 1) (fun j => if j = i + 1 then x_68 else xs j) j ≤ 10 := fun j => by
        unfold fillU
        split
        · exact bstQ_r hB2 j (by omega)
        · exact hSr j
      have hL2 : LX (row (row g 11 f) 10 (fillU (g 10) (i + 1 + 1) (fun j => if j = i + 1 then x_68 else xs j))) := LX_row hL hS2
      have hsz : szX (row (row g 11 f) 10 (fillU (g 10) (i + 1 + 1) (fun j => if j = i + 1 then x_68 else xs j))) (i : Int) = erc (dX g s) i (xs (i - 1)) (xs i) x_68 := by
        rw [sz_erc (s := s) (by omega), if_neg (show ¬ i = 0 by omega)]
        unfold fillU
        rw [if_pos (by omega), if_pos (by omega), if_pos (by omega)]
        dsimp only
        rw [if_neg (show ¬ i - 1 = i + 1 by omega), if_neg (show ¬ i = i + 1 by omega), if_pos rfl]
      have hrb := erc_b hD i hxi1 hxi hcr
      have hspn : tog s sp (erc (dX g s) i (xs (i - 1)) (xs i) x_68) = spn (dX g s) (fun j => if j = i + 1 then x_68 else xs j) (i + 1) := by
        rw [spn, spn_c (ys := xs) i (fun j hj => if_neg (by omega)), ← hsp, if_neg (show ¬ i = 0 by omega)]
        try dsimp only
        rw [if_neg (show ¬ i - 1 = i + 1 by omega), if_neg (show ¬ i = i + 1 by omega), if_pos rfl]
        rfl
      refine j_iastore C rfl (by decide) dX2_settle_71 (by first | omega | (refine ⟨?_, ?_⟩ <;> omega) | exact hw _ _ | exact nrm_R _) (by first | omega | (refine ⟨?_, ?_⟩ <;> omega) | exact hw _ _ | exact nrm_R _) (by refine ⟨?_, ?_⟩ <;> omega) ?_
      rw [est]
      refine j_iload_n C dX2_settle_72 rfl ?_
      refine j_aload_n C dX2_settle_73 rfl ?_
      refine j_iload C dX2_settle_74 rfl ?_
      refine j_callVi1 C vX2_settle_56 rfl rfl (Nat.le_of_ble_eq_true rfl) ⟨Nat.zero_le _, Nat.zero_le _⟩ dX2_settle_76 (ct_X2_sizeOf ⟨hL2, by omega, (show (i : Int) < g 8 2 by omega)⟩) (fun x_76 g_76 hk_76 => ?_)
      obtain ⟨e_76, rfl⟩ := hk_76
      have e_76 := e_76.symm
      subst e_76
      rw [hsz]
      refine j_iload_n C dX2_settle_79 rfl ?_
      refine j_callSi3 C vX2_settle_59 rfl (Nat.le_of_ble_eq_true rfl) ⟨Nat.zero_le _, Nat.zero_le _⟩ dX2_settle_80 (ct_X2_together ⟨⟨by have := hinv.1; omega, by have := hinv.2.1; omega⟩, ⟨by omega, by omega⟩, hs⟩) (fun x_80 g_80 hk_80 => ?_)
      obtain ⟨e_80, rfl⟩ := hk_80
      have e_80 := e_80.symm
      subst e_80
      refine j_istore_n C dX2_settle_83 (Nat.le_of_ble_eq_true rfl) ?_
      dsimp only [List.set]
      refine j_iinc C dX2_settle_84 rfl ?_
      dsimp only [List.set]
      refine j_goto C (tgt := 43) dX2_settle_87 (by decide) ?_
      exact j_cast (ih _ (by omega) (i + 1) L _ (fun j => if j = i + 1 then x_68 else xs j) rfl (by omega) (by omega) hB2 hspn) rfl rfl rfl
  have md : ∀ (f : Nat → Int) (l2 l3 l4 : Option AV), tbB (dX g s) (g 8 2).toNat f 0 → J q ShW 0 0 28 [some (.inr 8), some (.inl s), l2, l3, l4] [] (row g 11 f) := by
    intro f l2 l3 l4 hf
    have hLf : LX (row g 11 f) := hL
    refine j_aload_n C dX2_settle_28 rfl ?_
    refine j_iload_n C dX2_settle_29 rfl ?_
    refine j_callVi1 C vX2_settle_74 rfl rfl (Nat.le_of_ble_eq_true rfl) ⟨Nat.zero_le _, Nat.zero_le _⟩ dX2_settle_30 (ct_X2_settleFirstTwo (W := bV (dX g s) ((g 8 2).toNat - 2) 1) ⟨hLf, hs, fun b c q1 q2 q3 q4 q5 => (by have z := hf 1 (by omega) (by omega) b c ⟨q1, q2⟩ ⟨q3, q4⟩ q5; rw [show (g 8 2).toNat - 1 - 1 = (g 8 2).toNat - 2 by omega] at z; exact z), fun b c q1 q2 q3 q4 => hWb _ _ _ _ q1 q2 q3 q4⟩) (fun x_30 g_30 hk_30 => ?_)
    obtain ⟨y0_30, y1_30, hf_30, rfl⟩ := hk_30
    have hB : bstQ (dX g s) (g 8 2).toNat x_30 (fun j => if j = 0 then y0_30 else y1_30) 1 := ftI_bst hD (by omega) (by omega) hf_30
    have hr1 : -10 ≤ y0_30 ∧ y0_30 ≤ 10 := bstQ_r hB 0 (by omega)
    have hr2 : -10 ≤ y1_30 ∧ y1_30 ≤ 10 := bstQ_r hB 1 (by omega)
    have hLb := bst_L hD (by omega) (by omega) hB
    have est : row (row g 11 f) 10 (st2 (g 10) y0_30 y1_30) = row (row g 11 f) 10 (fillU (g 10) 2 (fun j => if j = 0 then y0_30 else y1_30)) := by
      congr 1
      funext j
      unfold st2 fillU
      by_cases j0 : j = 0
      · subst j0; simp
      · by_cases j1 : j = 1
        · subst j1; simp
        · rw [if_neg j0, if_neg j1, if_neg (by omega)]
    have est0 : row (row g 11 f) 10 (st2 ((row g 11 f) 10) y0_30 y1_30) = row (row g 11 f) 10 (fillU (g 10) 2 (fun j => if j = 0 then y0_30 else y1_30)) := est
    rw [est0]
    have hS2 : ∀ j, -10 ≤ fillU (g 10) 2 (fun j => if j = 0 then y0_30 else y1_30) j ∧ fillU (g 10) 2 (fun j => if j = 0 then y0_30 else y1_30) j ≤ 10 := fun j => by
      unfold fillU
      split
      · dsimp only
        split
        · exact hr1
        · exact hr2
      · exact hSr j
    have hL2 : LX (row (row g 11 f) 10 (fillU (g 10) 2 (fun j => if j = 0 then y0_30 else y1_30))) := LX_row hL hS2
    have hsz : szX (row (row g 11 f) 10 (fillU (g 10) 2 (fun j => if j = 0 then y0_30 else y1_30))) 0 = spn (dX g s) (fun j => if j = 0 then y0_30 else y1_30) 1 := by
      have z := sz_erc (g := g) (s := s) (f := f) (S := fillU (g 10) 2 (fun j => if j = 0 then y0_30 else y1_30)) (i := 0) (by omega)
      have z2 : szX (row (row g 11 f) 10 (fillU (g 10) 2 (fun j => if j = 0 then y0_30 else y1_30))) 0 = erc (dX g s) 0 0 y0_30 y1_30 := z
      rw [z2]
      have hb := (erc_b hD 0 (a := 0) (b := y0_30) (c := y1_30) ⟨by omega, by omega⟩ hr1 hr2).1
      exact (tog_0 hb).symm
    have hszb := szX_b hL2 0
    refine j_istore_n C dX2_settle_33 (Nat.le_of_ble_eq_true rfl) ?_
    dsimp only [List.set]
    refine j_aload_n C dX2_settle_34 rfl ?_
    refine j_iconst C dX2_settle_35 ?_
    refine j_callVi1 C vX2_settle_56 rfl rfl (Nat.le_of_ble_eq_true rfl) ⟨Nat.zero_le _, Nat.zero_le _⟩ dX2_settle_36 (ct_X2_sizeOf ⟨hL2, by omega, (show (0 : Int) < g 8 2 by omega)⟩) (fun x_36 g_36 hk_36 => ?_)
    obtain ⟨e_36, rfl⟩ := hk_36
    have e_36 := e_36.symm
    subst e_36
    refine j_istore_n C dX2_settle_39 (Nat.le_of_ble_eq_true rfl) ?_
    dsimp only [List.set]
    refine j_iconst C dX2_settle_40 ?_
    refine j_istore C dX2_settle_41 (Nat.le_of_ble_eq_true rfl) ?_
    dsimp only [List.set]
    exact j_cast (lp2 f hf _ 1 x_30 _ _ rfl (by omega) (by omega) hB hsz) rfl rfl rfl
  have lp : ∀ k : Nat, ∀ (i : Int) (f : Nat → Int) (l3 l4 : Option AV), i.toNat = k → 0 ≤ i → i ≤ g 8 2 - 2 → tbB (dX g s) (g 8 2).toNat f i → J q ShW 0 0 11 [some (.inr 8), some (.inl s), some (.inl i), l3, l4] [] (row g 11 f) := by
    refine byN _ (fun k ih i f l3 l4 hk hi1 hi2 hf => ?_)
    have hLf : LX (row g 11 f) := hL
    refine j_iload_n C dX2_settle_11 rfl ?_
    refine j_iconst C dX2_settle_12 ?_
    refine j_icmp_lt C (tgt := 28) dX2_settle_13 (by decide) (by first | omega | (refine ⟨?_, ?_⟩ <;> omega) | exact hw _ _ | exact nrm_R _) (by first | omega | (refine ⟨?_, ?_⟩ <;> omega) | exact hw _ _ | exact nrm_R _) (fun c_13 => ?_) (fun c_13 => ?_)
    · exact md f _ _ _ (by rw [show i = 0 by omega] at hf; exact hf)
    · refine j_aload_n C dX2_settle_16 rfl ?_
      refine j_iload_n C dX2_settle_17 rfl ?_
      refine j_iload_n C dX2_settle_18 rfl ?_
      refine j_callVv2 C vX2_settle_70 rfl rfl (Nat.le_of_ble_eq_true rfl) ⟨Nat.zero_le _, Nat.zero_le _⟩ dX2_settle_19 (ct_X2_weigh (W := bV (dX g s) ((g 8 2).toNat - 2 - i.toNat) (i.toNat + 1)) ⟨hLf, hs, by omega, hi2, fun b c q1 q2 q3 q4 q5 => (by have z := hf (i.toNat + 1) (by omega) (by omega) b c ⟨q1, q2⟩ ⟨q3, q4⟩ q5; rw [show (g 8 2).toNat - 1 - (i.toNat + 1) = (g 8 2).toNat - 2 - i.toNat by omega, show ((i.toNat + 1 : Nat) : Int) = i + 1 by omega] at z; exact z), fun b c q1 q2 q3 q4 => hWb _ _ _ _ q1 q2 q3 q4⟩) (fun g_19 hk_19 => ?_)
      obtain ⟨f_19, rfl, hf_19, hk_19⟩ := hk_19
      rw [row_row]
      refine j_iinc C dX2_settle_22 rfl ?_
      dsimp only [List.set]
      refine j_goto C (tgt := 11) dX2_settle_25 (by decide) ?_
      refine ih _ (by omega) (i + -1) f_19 _ _ rfl (by omega) (by omega) (fun p q1 q2 a b q3 q4 q5 => ?_)
      by_cases e : p = i.toNat
      · subst e
        rw [show ((i.toNat : Nat) : Int) = i by omega]
        have z := hf_19 a b q3 q4 q5
        rw [z, show (g 8 2).toNat - 1 - i.toNat = ((g 8 2).toNat - 2 - i.toNat) + 1 by omega]
        rfl
      · have z := sp3_in (p := (p : Int)) (a := a) (b := b) (by omega) q3 q4
        have z2 : f_19 (sp3 (p : Int) a b) = f (sp3 (p : Int) a b) := hk_19 _ (Or.inr (by omega))
        rw [z2]
        exact hf p (by omega) q2 a b q3 q4 q5
  refine j_aload_n C dX2_settle_0 rfl ?_
  refine j_callVv0 C vX2_settle_67 rfl rfl (Nat.le_of_ble_eq_true rfl) ⟨Nat.zero_le _, Nat.zero_le _⟩ dX2_settle_1 (ct_X2_weighLast (s := s) ⟨hL, hs⟩) (fun g_1 hk_1 => ?_)
  obtain ⟨f_1, rfl, hf_1⟩ := hk_1
  refine j_aload_n C dX2_settle_4 rfl ?_
  refine j_getI C fX2_settle_18 rfl rfl dX2_settle_5 ?_
  refine j_iconst C dX2_settle_8 ?_
  refine j_isub C dX2_settle_9 ?_
  refine j_istore_n C dX2_settle_10 (Nat.le_of_ble_eq_true rfl) ?_
  dsimp only [List.set]
  refine lp _ (g 8 2 - 2) f_1 none none rfl (by omega) (by omega) (fun p q1 q2 a b q3 q4 q5 => ?_)
  have e : p = (g 8 2 - 1).toNat := by omega
  subst e
  rw [show (((g 8 2 - 1).toNat : Nat) : Int) = g 8 2 - 1 by omega, hf_1 a b q3 q4, show (g 8 2).toNat - 1 - (g 8 2 - 1).toNat = 0 by omega]
  rfl
set_option maxHeartbeats 4000000 in
set_option maxRecDepth 100000 in
theorem ct_X4_best {k : Int} {g : AG} (h : LX g ∧ aR k) : MetI yX4_best wsX4_best rmX4_best ShW [.inr 0, .inl k] g (fun x g' => (¬ (0 ≤ k ∧ k ≤ 1) ∧ x = -2 ∧ g' = g) ∨ ((0 ≤ k ∧ k ≤ 1) ∧ ∃ (L : Int) (xs f : Nat → Int), bstQ (dX g (if k = 0 then 1 else 0)) (g 8 2).toNat L xs ((g 8 2).toNat - 1) ∧ x = L ∧ g' = row (row g 11 f) 10 (fillU (g 10) (g 8 2).toNat xs))) := by
  refine metI_of (cc := cX4_best) (nL := 2) false (by decide +kernel) rfl (Nat.le_of_ble_eq_true rfl) (fun q J C => ?_)
  show J q ShW 0 0 0 [some (.inr 0), some (.inl k)] [] g
  refine j_wf C (fun hw => ?_)
  obtain ⟨hL, hk⟩ := h
  refine j_iload_n C dX4_best_0 rfl ?_
  refine j_iconst C dX4_best_1 ?_
  refine j_iconst C dX4_best_2 ?_
  refine j_callSi3 C vX4_best_39 rfl (Nat.le_of_ble_eq_true rfl) ⟨Nat.zero_le _, Nat.zero_le _⟩ dX4_best_3 (ct_X4_within ⟨hk, ⟨by omega, by omega⟩, ⟨by omega, by omega⟩⟩) (fun x_3 g_3 hk_3 => ?_)
  obtain ⟨e_3, hb_3, hi_3⟩ := hk_3
  have e_3 := e_3.symm
  subst e_3
  refine j_if_ne C (tgt := 12) dX4_best_6 (by decide) (by first | omega | (refine ⟨?_, ?_⟩ <;> omega) | exact hw _ _ | exact nrm_R _) (fun c_6 => ?_) (fun c_6 => ?_)
  · refine j_aload_n C dX4_best_12 rfl ?_
    refine j_getR C fX4_best_19 rfl rfl dX4_best_13 ?_
    refine j_iload_n C dX4_best_16 rfl ?_
    refine j_if_ne C (tgt := 24) dX4_best_17 (by decide) (by first | omega | (refine ⟨?_, ?_⟩ <;> omega) | exact hw _ _ | exact nrm_R _) (fun c_17 => ?_) (fun c_17 => ?_)
    · refine j_iconst C dX4_best_24 ?_
      refine j_callVi1 C vX4_best_130 rfl rfl (Nat.le_of_ble_eq_true rfl) ⟨Nat.zero_le _, Nat.zero_le _⟩ dX4_best_25 (ct_X2_settle ⟨hL, by omega⟩) (fun x_25 g_25 hk_25 => ?_)
      have hx_25 := hk_25
      refine j_iretI C dX4_best_28 (by intro h; cases h) (fun hw9 => ?_)
      refine Or.inr ⟨by omega, ?_⟩
      first
      | (rw [if_pos c_17]; exact hx_25)
      | (rw [if_neg c_17]; exact hx_25)
    · refine j_iconst C dX4_best_20 ?_
      refine j_goto C (tgt := 25) dX4_best_21 (by decide) ?_
      refine j_callVi1 C vX4_best_130 rfl rfl (Nat.le_of_ble_eq_true rfl) ⟨Nat.zero_le _, Nat.zero_le _⟩ dX4_best_25 (ct_X2_settle ⟨hL, by omega⟩) (fun x_25 g_25 hk_25 => ?_)
      have hx_25 := hk_25
      refine j_iretI C dX4_best_28 (by intro h; cases h) (fun hw9 => ?_)
      refine Or.inr ⟨by omega, ?_⟩
      first
      | (rw [if_pos c_17]; exact hx_25)
      | (rw [if_neg c_17]; exact hx_25)
  · refine j_bipush C dX4_best_9 (by decide +kernel) ?_
    refine j_iretI C dX4_best_11 (by intro h; cases h) (fun hw9 => ?_)
    exact Or.inl ⟨by omega, rfl, rfl⟩
