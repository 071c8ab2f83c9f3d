set_option maxHeartbeats 4000000 in
set_option maxRecDepth 100000 in
theorem ct_X1_without {m j : Nat} {g : AG} (h : m < 512 ∧ j < 9) : MetI yX1_without wsX1_without rmX1_without ShW [.inl (m : Int), .inl (j : Int)] g (fun x g' => g' = g ∧ x = ((clr m j : Nat) : Int)) := by
  refine metI_of (cc := cX1_without) (nL := 2) false (by decide +kernel) rfl (Nat.le_of_ble_eq_true rfl) (fun q J C => ?_)
  show J q ShW 0 0 0 [some (.inl (m : Int)), some (.inl (j : Int))] [] g
  refine j_wf C (fun hw => ?_)
  obtain ⟨h1, h2⟩ := h
  refine j_iload_n C dX1_without_0 rfl ?_
  refine j_iconst C dX1_without_1 ?_
  refine j_iload_n C dX1_without_2 rfl ?_
  refine j_ishl C dX1_without_3 (b_shl j (by omega)) ?_
  refine j_iconst C dX1_without_4 ?_
  refine j_ixor C dX1_without_5 (b_not j h2) ?_
  refine j_iand C dX1_without_6 (b_clr m h1 j h2) ?_
  refine j_iretI C dX1_without_7 (by intro h; cases h) (fun hw9 => ?_)
  exact ⟨rfl, rfl⟩
set_option maxHeartbeats 4000000 in
set_option maxRecDepth 100000 in
theorem ct_X1_has {m j : Nat} {g : AG} (h : m < 512 ∧ j < 9) : MetI yX1_has wsX1_has rmX1_has ShW [.inl (m : Int), .inl (j : Int)] g (fun x g' => g' = g ∧ (x = 0 ∨ x = 1) ∧ (x = 1 ↔ tb m j)) := by
  refine metI_of (cc := cX1_has) (nL := 2) true (by decide +kernel) rfl (Nat.le_of_ble_eq_true rfl) (fun q J C => ?_)
  show J q ShW 0 0 0 [some (.inl (m : Int)), some (.inl (j : Int))] [] g
  refine j_wf C (fun hw => ?_)
  obtain ⟨h1, h2⟩ := h
  have h3 : m / 2 ^ j < 512 := Nat.lt_of_le_of_lt (Nat.div_le_self _ _) h1
  refine j_iload_n C dX1_has_0 rfl ?_
  refine j_iload_n C dX1_has_1 rfl ?_
  refine j_ishr C dX1_has_2 (b_shr m h1 j h2) ?_
  refine j_iconst C dX1_has_3 ?_
  refine j_iand C dX1_has_4 (b_one _ h3) ?_
  refine j_iconst C dX1_has_5 ?_
  refine j_icmp_ne C (tgt := 13) dX1_has_6 (by decide) (by first | omega | (refine ⟨?_, ?_⟩ <;> omega) | exact hw _ _ | exact nrm_R _) (by first | omega | (refine ⟨?_, ?_⟩ <;> omega) | exact hw _ _ | exact nrm_R _) (fun c_6 => ?_) (fun c_6 => ?_)
  · refine j_iconst C dX1_has_13 ?_
    refine j_iretI C dX1_has_14 (fun _ => by first | exact Or.inl rfl | exact Or.inr rfl | assumption | omega) (fun hw9 => ?_)
    unfold tb
    exact ⟨rfl, by omega, by omega⟩
  · refine j_iconst C dX1_has_9 ?_
    refine j_goto C (tgt := 14) dX1_has_10 (by decide) ?_
    refine j_iretI C dX1_has_14 (fun _ => by first | exact Or.inl rfl | exact Or.inr rfl | assumption | omega) (fun hw9 => ?_)
    unfold tb
    exact ⟨rfl, by omega, by omega⟩
set_option maxHeartbeats 4000000 in
set_option maxRecDepth 100000 in
theorem ct_X1_allBut {a : Nat} {g : AG} (h : 0 ≤ g 18 0 ∧ g 18 0 ≤ 9 ∧ a < 9) : MetI yX1_allBut wsX1_allBut rmX1_allBut ShW [.inr 18, .inl (a : Int)] g (fun x g' => g' = g ∧ x = ((clr (2 ^ (g 18 0).toNat - 1) a : Nat) : Int)) := by
  refine metI_of (cc := cX1_allBut) (nL := 2) false (by decide +kernel) rfl (Nat.le_of_ble_eq_true rfl) (fun q J C => ?_)
  show J q ShW 0 0 0 [some (.inr 18), some (.inl (a : Int))] [] g
  refine j_wf C (fun hw => ?_)
  obtain ⟨h1, h2, h3⟩ := h
  have h4 := two_b (g 18 0).toNat (by omega)
  have e1 : (((g 18 0).toNat : Nat) : Int) = g 18 0 := by omega
  have e2 : ((2 ^ (g 18 0).toNat : Nat) : Int) - 1 = ((2 ^ (g 18 0).toNat - 1 : Nat) : Int) := by omega
  have e3 := b_shl (g 18 0).toNat (by omega)
  rw [e1] at e3
  refine j_iconst C dX1_allBut_0 ?_
  refine j_aload_n C dX1_allBut_1 rfl ?_
  refine j_getI C fX1_allBut_24 rfl rfl dX1_allBut_2 ?_
  refine j_ishl C dX1_allBut_5 (e3) ?_
  refine j_iconst C dX1_allBut_6 ?_
  refine j_isub C dX1_allBut_7 ?_
  rw [e2]
  refine j_iload_n C dX1_allBut_8 rfl ?_
  refine j_callSi2 C vX1_allBut_49 rfl (Nat.le_of_ble_eq_true rfl) ⟨Nat.zero_le _, Nat.zero_le _⟩ dX1_allBut_9 (ct_X1_without ⟨by omega, h3⟩) (fun x_9 g_9 hk_9 => ?_)
  obtain ⟨e_9, rfl⟩ := hk_9
  have e_9 := e_9.symm
  subst e_9
  refine j_iretI C dX1_allBut_12 (by intro h; cases h) (fun hw9 => ?_)
  exact ⟨rfl, rfl⟩
set_option maxHeartbeats 4000000 in
set_option maxRecDepth 100000 in
theorem ct_X1_restOf {l a : Nat} {g : AG} (h : l < 512 ∧ a < 9) : MetI yX1_restOf wsX1_restOf rmX1_restOf ShW [.inr 18, .inl (l : Int), .inl (a : Int)] g (fun x g' => g' = g ∧ x = g 20 (9 * l + a)) := by
  refine metI_of (cc := cX1_restOf) (nL := 3) false (by decide +kernel) rfl (Nat.le_of_ble_eq_true rfl) (fun q J C => ?_)
  show J q ShW 0 0 0 [some (.inr 18), some (.inl (l : Int)), some (.inl (a : Int))] [] g
  refine j_wf C (fun hw => ?_)
  refine j_aload_n C dX1_restOf_0 rfl ?_
  refine j_getR C fX1_restOf_15 rfl rfl dX1_restOf_1 ?_
  refine j_iload_n C dX1_restOf_4 rfl ?_
  refine j_bipush C dX1_restOf_5 (by decide +kernel) ?_
  refine j_imul C dX1_restOf_7 ?_
  refine j_iload_n C dX1_restOf_8 rfl ?_
  refine j_iadd C dX1_restOf_9 ?_
  refine j_iaload C rfl (by decide) dX1_restOf_10 (by first | omega | (refine ⟨?_, ?_⟩ <;> omega) | exact hw _ _ | exact nrm_R _) (by first | omega | (refine ⟨?_, ?_⟩ <;> omega) | exact hw _ _ | exact nrm_R _) ?_
  refine j_iretI C dX1_restOf_11 (by intro h; cases h) (fun hw9 => ?_)
  exact ⟨rfl, by rw [show ((l : Int) * 9 + (a : Int)).toNat = 9 * l + a by omega]⟩
set_option maxHeartbeats 4000000 in
set_option maxRecDepth 100000 in
theorem ct_X1_throughStep {l a t : Nat} {g : AG} (h : l < 512 ∧ a < 9 ∧ t < 9) : MetI yX1_throughStep wsX1_throughStep rmX1_throughStep ShW [.inr 18, .inl (l : Int), .inl (a : Int), .inl (t : Int)] g (fun x g' => g' = g ∧ x = vX (g 19) (g 20) l a t) := by
  refine metI_of (cc := cX1_throughStep) (nL := 4) false (by decide +kernel) rfl (Nat.le_of_ble_eq_true rfl) (fun q J C => ?_)
  show J q ShW 0 0 0 [some (.inr 18), some (.inl (l : Int)), some (.inl (a : Int)), some (.inl (t : Int))] [] g
  refine j_wf C (fun hw => ?_)
  obtain ⟨h1, h2, h3⟩ := h
  have h4 := clr_le l t
  refine j_aload_n C dX1_throughStep_0 rfl ?_
  refine j_iload_n C dX1_throughStep_1 rfl ?_
  refine j_iload_n C dX1_throughStep_2 rfl ?_
  refine j_callVi2 C vX1_throughStep_32 rfl rfl (Nat.le_of_ble_eq_true rfl) ⟨Nat.zero_le _, Nat.zero_le _⟩ dX1_throughStep_3 (ct_X1_costOf ⟨by omega, by omega, by omega, by omega⟩) (fun x_3 g_3 hk_3 => ?_)
  obtain ⟨e_3, rfl⟩ := hk_3
  have e_3 := e_3.symm
  subst e_3
  refine j_aload_n C dX1_throughStep_6 rfl ?_
  refine j_iload_n C dX1_throughStep_7 rfl ?_
  refine j_iload_n C dX1_throughStep_8 rfl ?_
  refine j_callSi2 C vX1_throughStep_49 rfl (Nat.le_of_ble_eq_true rfl) ⟨Nat.zero_le _, Nat.zero_le _⟩ dX1_throughStep_9 (ct_X1_without ⟨h1, h3⟩) (fun x_9 g_9 hk_9 => ?_)
  obtain ⟨e_9, rfl⟩ := hk_9
  have e_9 := e_9.symm
  subst e_9
  refine j_iload_n C dX1_throughStep_12 rfl ?_
  refine j_callVi2 C vX1_throughStep_43 rfl rfl (Nat.le_of_ble_eq_true rfl) ⟨Nat.zero_le _, Nat.zero_le _⟩ dX1_throughStep_13 (ct_X1_restOf ⟨by omega, h3⟩) (fun x_13 g_13 hk_13 => ?_)
  obtain ⟨e_13, rfl⟩ := hk_13
  have e_13 := e_13.symm
  subst e_13
  refine j_iadd C dX1_throughStep_16 ?_
  refine j_iretI C dX1_throughStep_17 (by intro h; cases h) (fun hw9 => ?_)
  exact ⟨rfl, by unfold vX; rw [show ((a : Int) * 9 + (t : Int)).toNat = 9 * a + t by omega]⟩
set_option maxHeartbeats 4000000 in
set_option maxRecDepth 100000 in
theorem ct_X1_lesserStep {l a : Nat} {g : AG} (h : 0 ≤ g 18 0 ∧ g 18 0 ≤ 9 ∧ l < 2 ^ (g 18 0).toNat ∧ a < 9 ∧ (∀ j, 0 ≤ g 19 j ∧ g 19 j ≤ 1000) ∧ ∀ t, t < (g 18 0).toNat → tb l t → 0 ≤ g 20 (9 * clr l t + t) ∧ g 20 (9 * clr l t + t) ≤ 9000) : MetI yX1_lesserStep wsX1_lesserStep rmX1_lesserStep ShW [.inr 18, .inl (l : Int), .inl (a : Int)] g (fun x g' => g' = g ∧ ((l = 0 ∧ x = a) ∨ ∃ t : Nat, x = t ∧ stepS (g 18 0).toNat (g 19) (g 20) l a t)) := by
  refine metI_of (cc := cX1_lesserStep) (nL := 7) false (by decide +kernel) rfl (Nat.le_of_ble_eq_true rfl) (fun q J C => ?_)
  show J q ShW 0 0 0 [some (.inr 18), some (.inl (l : Int)), some (.inl (a : Int)), none, none, none, none] [] g
  refine j_wf C (fun hw => ?_)
  obtain ⟨h1, h2, hl, ha, hco, hf⟩ := h
  have hl2 := two_b (g 18 0).toNat (by omega)
  have lp : ∀ k : Nat, ∀ (i : Nat) (le ch : Int) (l6 : Option AV), ((g 18 0).toNat - i) = k → i ≤ (g 18 0).toNat → lsI (g 19) (g 20) l a i le ch → J q ShW 0 0 9 [some (.inr 18), some (.inl (l : Int)), some (.inl (a : Int)), some (.inl le), some (.inl ch), some (.inl (i : Int)), l6] [] g := by
    refine byN _ (fun k ih i le ch l6 hk hi hI => ?_)
    have hv : ∀ s, s < (g 18 0).toNat → tb l s → 0 ≤ vX (g 19) (g 20) l a s ∧ vX (g 19) (g 20) l a s ≤ 10000 := fun s q1 q2 => by
      have z1 := hco (9 * a + s)
      have z2 := hf s q1 q2
      unfold vX
      omega
    have hle : 0 ≤ le ∧ le ≤ 1000000 := by
      rcases hI with ⟨e1, -, -⟩ | ⟨t, -, q1, q2, e1, -⟩
      · omega
      · have := hv t (by omega) q2
        omega
    refine j_iload C dX1_lesserStep_9 rfl ?_
    refine j_aload_n C dX1_lesserStep_11 rfl ?_
    refine j_getI C fX1_lesserStep_24 rfl rfl dX1_lesserStep_12 ?_
    refine j_icmp_ge C (tgt := 56) dX1_lesserStep_15 (by decide) (by first | omega | (refine ⟨?_, ?_⟩ <;> omega) | exact hw _ _ | exact nrm_R _) (by first | omega | (refine ⟨?_, ?_⟩ <;> omega) | exact hw _ _ | exact nrm_R _) (fun c_15 => ?_) (fun c_15 => ?_)
    · refine j_iload C dX1_lesserStep_56 rfl ?_
      refine j_iretI C dX1_lesserStep_58 (by intro h; cases h) (fun hw9 => ?_)
      refine ⟨rfl, ?_⟩
      have ei : (g 18 0).toNat = i := by omega
      rcases hI with ⟨e1, e2, e3⟩ | ⟨t, e1, q1, q2, e2, q3, q4⟩
      · by_cases e4 : l = 0
        · exact Or.inl ⟨e4, e2⟩
        · obtain ⟨j, j1, j2⟩ := some_tb (g 18 0).toNat (by omega) l hl e4
          exact absurd j2 (e3 j (by omega))
      · exact Or.inr ⟨t, e1, by omega, q2, fun s z1 z2 => q3 s (by omega) z2, q4⟩
    · refine j_iload_n C dX1_lesserStep_18 rfl ?_
      refine j_iload C dX1_lesserStep_19 rfl ?_
      refine j_callSi2 C vX1_lesserStep_52 rfl (Nat.le_of_ble_eq_true rfl) ⟨Nat.zero_le _, Nat.zero_le _⟩ dX1_lesserStep_21 (ct_X1_has ⟨by omega, by omega⟩) (fun x_21 g_21 hk_21 => ?_)
      obtain ⟨e_21, hb_21, hi_21⟩ := hk_21
      have e_21 := e_21.symm
      subst e_21
      refine j_if_eq C (tgt := 50) dX1_lesserStep_24 (by decide) (by first | omega | (refine ⟨?_, ?_⟩ <;> omega) | exact hw _ _ | exact nrm_R _) (fun c_24 => ?_) (fun c_24 => ?_)
      · refine j_iinc C dX1_lesserStep_50 rfl ?_
        dsimp only [List.set]
        refine j_goto C (tgt := 9) dX1_lesserStep_53 (by decide) ?_
        first
        | (refine j_cast (ih _ (by omega) (i + 1) le ch l6 rfl (by omega) ?_) rfl rfl rfl
           have hnt : ¬ tb l i := fun z => by have := hi_21.mpr z; omega
           rcases hI with ⟨e1, e2, e3⟩ | ⟨t, e1, q1, q2, e2, q3, q4⟩
           · refine Or.inl ⟨e1, e2, fun s hs => ?_⟩
             by_cases e : s = i
             · subst e; exact hnt
             · exact e3 s (by omega)
           · refine Or.inr ⟨t, e1, by omega, q2, e2, fun s hs hb => ?_, q4⟩
             by_cases e : s = i
             · subst e; exact absurd hb hnt
             · exact q3 s (by omega) hb)
        | (refine j_cast (ih _ (by omega) (i + 1) (vX (g 19) (g 20) l a i) (i : Int) _ rfl (by omega) ?_) rfl rfl rfl
           refine Or.inr ⟨i, rfl, by omega, ht, rfl, fun s hs hb => ?_, fun s hs hb => ?_⟩
           · by_cases e : s = i
             · subst e; exact Int.le_refl _
             · rcases hI with ⟨e1, e2, e3⟩ | ⟨t, e1, q1, q2, e2, q3, q4⟩
               · exact absurd hb (e3 s (by omega))
               · have := q3 s (by omega) hb
                 omega
           · rcases hI with ⟨e1, e2, e3⟩ | ⟨t, e1, q1, q2, e2, q3, q4⟩
             · exact absurd hb (e3 s (by omega))
             · have := q3 s (by omega) hb
               omega)
        | (refine j_cast (ih _ (by omega) (i + 1) le ch _ rfl (by omega) ?_) rfl rfl rfl
           rcases hI with ⟨e1, e2, e3⟩ | ⟨t, e1, q1, q2, e2, q3, q4⟩
           · exfalso; omega
           · refine Or.inr ⟨t, e1, by omega, q2, e2, fun s hs hb => ?_, q4⟩
             by_cases e : s = i
             · subst e; omega
             · exact q3 s (by omega) hb)
      · have ht := hi_21.mp (by omega)
        have hvi := hv i (by omega) ht
        refine j_aload_n C dX1_lesserStep_27 rfl ?_
        refine j_iload_n C dX1_lesserStep_28 rfl ?_
        refine j_iload_n C dX1_lesserStep_29 rfl ?_
        refine j_iload C dX1_lesserStep_30 rfl ?_
        refine j_callVi3 C vX1_lesserStep_56 rfl rfl (Nat.le_of_ble_eq_true rfl) ⟨Nat.zero_le _, Nat.zero_le _⟩ dX1_lesserStep_32 (ct_X1_throughStep ⟨by omega, by omega, by omega⟩) (fun x_32 g_32 hk_32 => ?_)
        obtain ⟨e_32, rfl⟩ := hk_32
        have e_32 := e_32.symm
        subst e_32
        refine j_istore C dX1_lesserStep_35 (Nat.le_of_ble_eq_true rfl) ?_
        dsimp only [List.set]
        refine j_iload C dX1_lesserStep_37 rfl ?_
        refine j_iload_n C dX1_lesserStep_39 rfl ?_
        refine j_icmp_ge C (tgt := 50) dX1_lesserStep_40 (by decide) (by first | omega | (refine ⟨?_, ?_⟩ <;> omega) | exact hw _ _ | exact nrm_R _) (by first | omega | (refine ⟨?_, ?_⟩ <;> omega) | exact hw _ _ | exact nrm_R _) (fun c_40 => ?_) (fun c_40 => ?_)
        · refine j_iinc C dX1_lesserStep_50 rfl ?_
          dsimp only [List.set]
          refine j_goto C (tgt := 9) dX1_lesserStep_53 (by decide) ?_
          first
          | (refine j_cast (ih _ (by omega) (i + 1) le ch l6 rfl (by omega) ?_) rfl rfl rfl
             have hnt : ¬ tb l i := fun z => by have := hi_21.mpr z; omega
             rcases hI with ⟨e1, e2, e3⟩ | ⟨t, e1, q1, q2, e2, q3, q4⟩
             · refine Or.inl ⟨e1, e2, fun s hs => ?_⟩
               by_cases e : s = i
               · subst e; exact hnt
               · exact e3 s (by omega)
             · refine Or.inr ⟨t, e1, by omega, q2, e2, fun s hs hb => ?_, q4⟩
               by_cases e : s = i
               · subst e; exact absurd hb hnt
               · exact q3 s (by omega) hb)
          | (refine j_cast (ih _ (by omega) (i + 1) (vX (g 19) (g 20) l a i) (i : Int) _ rfl (by omega) ?_) rfl rfl rfl
             refine Or.inr ⟨i, rfl, by omega, ht, rfl, fun s hs hb => ?_, fun s hs hb => ?_⟩
             · by_cases e : s = i
               · subst e; exact Int.le_refl _
               · rcases hI with ⟨e1, e2, e3⟩ | ⟨t, e1, q1, q2, e2, q3, q4⟩
                 · exact absurd hb (e3 s (by omega))
                 · have := q3 s (by omega) hb
                   omega
             · rcases hI with ⟨e1, e2, e3⟩ | ⟨t, e1, q1, q2, e2, q3, q4⟩
               · exact absurd hb (e3 s (by omega))
               · have := q3 s (by omega) hb
                 omega)
          | (refine j_cast (ih _ (by omega) (i + 1) le ch _ rfl (by omega) ?_) rfl rfl rfl
             rcases hI with ⟨e1, e2, e3⟩ | ⟨t, e1, q1, q2, e2, q3, q4⟩
             · exfalso; omega
             · refine Or.inr ⟨t, e1, by omega, q2, e2, fun s hs hb => ?_, q4⟩
               by_cases e : s = i
               · subst e; omega
               · exact q3 s (by omega) hb)
        · refine j_iload C dX1_lesserStep_43 rfl ?_
          refine j_istore_n C dX1_lesserStep_45 (Nat.le_of_ble_eq_true rfl) ?_
          dsimp only [List.set]
          refine j_iload C dX1_lesserStep_46 rfl ?_
          refine j_istore C dX1_lesserStep_48 (Nat.le_of_ble_eq_true rfl) ?_
          dsimp only [List.set]
          refine j_iinc C dX1_lesserStep_50 rfl ?_
          dsimp only [List.set]
          refine j_goto C (tgt := 9) dX1_lesserStep_53 (by decide) ?_
          first
          | (refine j_cast (ih _ (by omega) (i + 1) le ch l6 rfl (by omega) ?_) rfl rfl rfl
             have hnt : ¬ tb l i := fun z => by have := hi_21.mpr z; omega
             rcases hI with ⟨e1, e2, e3⟩ | ⟨t, e1, q1, q2, e2, q3, q4⟩
             · refine Or.inl ⟨e1, e2, fun s hs => ?_⟩
               by_cases e : s = i
               · subst e; exact hnt
               · exact e3 s (by omega)
             · refine Or.inr ⟨t, e1, by omega, q2, e2, fun s hs hb => ?_, q4⟩
               by_cases e : s = i
               · subst e; exact absurd hb hnt
               · exact q3 s (by omega) hb)
          | (refine j_cast (ih _ (by omega) (i + 1) (vX (g 19) (g 20) l a i) (i : Int) _ rfl (by omega) ?_) rfl rfl rfl
             refine Or.inr ⟨i, rfl, by omega, ht, rfl, fun s hs hb => ?_, fun s hs hb => ?_⟩
             · by_cases e : s = i
               · subst e; exact Int.le_refl _
               · rcases hI with ⟨e1, e2, e3⟩ | ⟨t, e1, q1, q2, e2, q3, q4⟩
                 · exact absurd hb (e3 s (by omega))
                 · have := q3 s (by omega) hb
                   omega
             · rcases hI with ⟨e1, e2, e3⟩ | ⟨t, e1, q1, q2, e2, q3, q4⟩
               · exact absurd hb (e3 s (by omega))
               · have := q3 s (by omega) hb
                 omega)
          | (refine j_cast (ih _ (by omega) (i + 1) le ch _ rfl (by omega) ?_) rfl rfl rfl
             rcases hI with ⟨e1, e2, e3⟩ | ⟨t, e1, q1, q2, e2, q3, q4⟩
             · exfalso; omega
             · refine Or.inr ⟨t, e1, by omega, q2, e2, fun s hs hb => ?_, q4⟩
               by_cases e : s = i
               · subst e; omega
               · exact q3 s (by omega) hb)
  refine j_ldc C (1000000) dX1_lesserStep_0 kX1_lesserStep_60 ?_
  refine j_istore_n C dX1_lesserStep_2 (Nat.le_of_ble_eq_true rfl) ?_
  dsimp only [List.set]
  refine j_iload_n C dX1_lesserStep_3 rfl ?_
  refine j_istore C dX1_lesserStep_4 (Nat.le_of_ble_eq_true rfl) ?_
  dsimp only [List.set]
  refine j_iconst C dX1_lesserStep_6 ?_
  refine j_istore C dX1_lesserStep_7 (Nat.le_of_ble_eq_true rfl) ?_
  dsimp only [List.set]
  exact lp _ 0 _ _ none rfl (by omega) (Or.inl ⟨rfl, rfl, fun s hs => absurd hs (by omega)⟩)
