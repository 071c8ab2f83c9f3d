def enc (v : Int) : Int := if v < 1000000 then v else -1
theorem enc_c {v : Int} (h : v ≤ 1000000) : (v < 1000000 ∧ enc v = v) ∨ (v = 1000000 ∧ enc v = -1) := by
  unfold enc
  by_cases q : v < 1000000
  · exact Or.inl ⟨q, if_pos q⟩
  · exact Or.inr ⟨by omega, if_neg q⟩
theorem tog_c {s a b : Int} (hs : s = 0 ∨ s = 1) : (s = 1 ∧ tog s a b = a + b) ∨ (s = 0 ∧ tog s a b = max a b) := by
  unfold tog
  rcases hs with h | h
  · exact Or.inr ⟨h, if_pos h⟩
  · exact Or.inl ⟨h, if_neg (by omega)⟩
theorem sp3_in3 {p a b p' a' b' : Int} (hp : 0 ≤ p) (hp' : 0 ≤ p') (ha : -10 ≤ a ∧ a ≤ 10) (hb : -10 ≤ b ∧ b ≤ 10) (ha' : -10 ≤ a' ∧ a' ≤ 10) (hb' : -10 ≤ b' ∧ b' ≤ 10) (h : sp3 p a b = sp3 p' a' b') : p = p' ∧ a = a' ∧ b = b' := by
  unfold sp3 at h
  omega
def tbM (D : BD) (n : Nat) (f : Nat → Int) (i a b : Int) : Prop := ∀ p' : Nat, p' + 1 ≤ n → ∀ a' b', -10 ≤ a' ∧ a' ≤ 10 → -10 ≤ b' ∧ b' ≤ 10 → (i < p' ∨ ((p' : Int) = i ∧ (a' < a ∨ (a' = a ∧ b' < b)))) → f (sp3 (p' : Int) a' b') = enc (bV D (n - 1 - p') p' a' b')
theorem tbM_s {D : BD} {n : Nat} {f : Nat → Int} {i a b v : Int} (hi : 0 ≤ i) (ha : -10 ≤ a ∧ a ≤ 10) (hb : -10 ≤ b ∧ b ≤ 10) (hv : v = enc (bV D (n - 1 - i.toNat) i.toNat a b)) (h : tbM D n f i a b) : tbM D n (fun j => if j = sp3 i a b then v else f j) i a (b + 1) := by
  intro p' q0 a' b' q1 q2 q3
  dsimp only
  by_cases e : sp3 (p' : Int) a' b' = sp3 i a b
  · obtain ⟨e1, e2, e3⟩ := sp3_in3 (by omega) hi q1 q2 ha hb e
    rw [if_pos e, hv, e2, e3, show i.toNat = p' by omega]
  · rw [if_neg e]
    refine h p' q0 a' b' q1 q2 ?_
    rcases q3 with z | ⟨z1, z2 | ⟨z2, z3⟩⟩
    · exact Or.inl z
    · exact Or.inr ⟨z1, Or.inl z2⟩
    · rcases (show b' < b ∨ b' = b by omega) with z4 | z4
      · exact Or.inr ⟨z1, Or.inr ⟨z2, z4⟩⟩
      · exact absurd (by rw [z1, z2, z4]) e
set_option maxHeartbeats 4000000 in
set_option maxRecDepth 100000 in
theorem ct_X5_goes {p a b c s : Int} {g : AG} (h : LM g ∧ 0 ≤ p ∧ p < 24 ∧ -10 ≤ a ∧ a ≤ 10 ∧ -10 ≤ b ∧ b ≤ 10 ∧ -10 ≤ c ∧ c ≤ 10) : MetI yX5_goes wsX5_goes rmX5_goes ShW [.inr 21, .inl p, .inl a, .inl b, .inl c] g (fun x g' => g' = g ∧ (x = 0 ∨ x = 1) ∧ (x = 1 ↔ okc (dM g s) p.toNat a b c)) := by
  refine metI_of (cc := cX5_goes) (nL := 5) true (by decide +kernel) rfl (Nat.le_of_ble_eq_true rfl) (fun q J C => ?_)
  show J q ShW 0 0 0 [some (.inr 21), some (.inl p), some (.inl a), some (.inl b), some (.inl c)] [] g
  refine j_wf C (fun hw => ?_)
  obtain ⟨hL, h1, h2, h3, h4, h5, h6, h7, h8⟩ := h
  have hnx := hL.2.1
  have hbd := hL.2.2.1
  have hiff : okc (dM g s) p.toNat a b c ↔ (((b - c).natAbs : Int) ≤ g 21 10 ∧ (p.toNat = 0 ∨ ((2 * b - a - c).natAbs : Int) ≤ g 21 11)) := Iff.rfl
  refine j_iload_n C dX5_goes_0 rfl ?_
  refine j_iload C dX5_goes_1 rfl ?_
  refine j_isub C dX5_goes_3 ?_
  refine j_callSi1 C vX5_goes_99 rfl (Nat.le_of_ble_eq_true rfl) ⟨Nat.zero_le _, Nat.zero_le _⟩ dX5_goes_4 (ct_X5_size ⟨by omega, by omega⟩) (fun x_4 g_4 hk_4 => ?_)
  obtain ⟨e_4, rfl⟩ := hk_4
  have e_4 := e_4.symm
  subst e_4
  refine j_aload_n C dX5_goes_7 rfl ?_
  refine j_getI C fX5_goes_39 rfl rfl dX5_goes_8 ?_
  refine j_icmp_gt C (tgt := 40) dX5_goes_11 (by decide) (by first | omega | (refine ⟨?_, ?_⟩ <;> omega) | exact hw _ _ | exact nrm_R _) (by first | omega | (refine ⟨?_, ?_⟩ <;> omega) | exact hw _ _ | exact nrm_R _) (fun c_11 => ?_) (fun c_11 => ?_)
  · refine j_iconst C dX5_goes_40 ?_
    refine j_iretI C dX5_goes_41 (fun _ => by first | exact Or.inl rfl | exact Or.inr rfl | assumption | omega) (fun hw9 => ?_)
    rw [hiff]
    exact ⟨rfl, by omega, by omega⟩
  · refine j_iload_n C dX5_goes_14 rfl ?_
    refine j_if_eq C (tgt := 36) dX5_goes_15 (by decide) (by first | omega | (refine ⟨?_, ?_⟩ <;> omega) | exact hw _ _ | exact nrm_R _) (fun c_15 => ?_) (fun c_15 => ?_)
    · refine j_iconst C dX5_goes_36 ?_
      refine j_goto C (tgt := 41) dX5_goes_37 (by decide) ?_
      refine j_iretI C dX5_goes_41 (fun _ => by first | exact Or.inl rfl | exact Or.inr rfl | assumption | omega) (fun hw9 => ?_)
      rw [hiff]
      exact ⟨rfl, by omega, by omega⟩
    · refine j_iconst C dX5_goes_18 ?_
      refine j_iload_n C dX5_goes_19 rfl ?_
      refine j_imul C dX5_goes_20 ?_
      refine j_iload_n C dX5_goes_21 rfl ?_
      refine j_isub C dX5_goes_22 ?_
      refine j_iload C dX5_goes_23 rfl ?_
      refine j_isub C dX5_goes_25 ?_
      refine j_callSi1 C vX5_goes_99 rfl (Nat.le_of_ble_eq_true rfl) ⟨Nat.zero_le _, Nat.zero_le _⟩ dX5_goes_26 (ct_X5_size ⟨by omega, by omega⟩) (fun x_26 g_26 hk_26 => ?_)
      obtain ⟨e_26, rfl⟩ := hk_26
      have e_26 := e_26.symm
      subst e_26
      refine j_aload_n C dX5_goes_29 rfl ?_
      refine j_getI C fX5_goes_42 rfl rfl dX5_goes_30 ?_
      refine j_icmp_gt C (tgt := 40) dX5_goes_33 (by decide) (by first | omega | (refine ⟨?_, ?_⟩ <;> omega) | exact hw _ _ | exact nrm_R _) (by first | omega | (refine ⟨?_, ?_⟩ <;> omega) | exact hw _ _ | exact nrm_R _) (fun c_33 => ?_) (fun c_33 => ?_)
      · refine j_iconst C dX5_goes_40 ?_
        refine j_iretI C dX5_goes_41 (fun _ => by first | exact Or.inl rfl | exact Or.inr rfl | assumption | omega) (fun hw9 => ?_)
        rw [hiff]
        exact ⟨rfl, by omega, by omega⟩
      · refine j_iconst C dX5_goes_36 ?_
        refine j_goto C (tgt := 41) dX5_goes_37 (by decide) ?_
        refine j_iretI C dX5_goes_41 (fun _ => by first | exact Or.inl rfl | exact Or.inr rfl | assumption | omega) (fun hw9 => ?_)
        rw [hiff]
        exact ⟨rfl, by omega, by omega⟩
set_option maxHeartbeats 4000000 in
set_option maxRecDepth 100000 in
theorem ct_X5_layLeast {k s : Int} {g : AG} (h : LM g ∧ (k = 0 ∨ k = 1) ∧ s = if k = 0 then 1 else 0) : MetV yX5_layLeast wsX5_layLeast rmX5_layLeast ShW [.inr 21, .inl k] g (fun g' => ∃ f : Nat → Int, g' = row g 34 f ∧ ∀ p : Nat, p + 1 ≤ (g 21 0).toNat → ∀ a b, -10 ≤ a ∧ a ≤ 10 → -10 ≤ b ∧ b ≤ 10 → f (sp3 (p : Int) a b) = enc (bV (dM g s) ((g 21 0).toNat - 1 - p) p a b)) := by
  refine metV_of (cc := cX5_layLeast) (nL := 10) (by decide +kernel) rfl (Nat.le_of_ble_eq_true rfl) (fun q J C => ?_)
  show J q ShW 0 0 0 [some (.inr 21), some (.inl k), none, none, none, none, none, none, none, none] [] g
  refine j_wf C (fun hw => ?_)
  obtain ⟨hL, hk, hks⟩ := h
  have hn := hL.1
  have hnx := hL.2.1
  have hbd := hL.2.2.1
  have hs : s = 0 ∨ s = 1 := by
    rcases hk with q | q
    · rw [if_pos q] at hks; exact Or.inr hks
    · rw [if_neg (by omega)] at hks; exact Or.inl hks
  have hD := dI_M hL hs
  -- the innermost loop
  have inn : ∀ (P a b : Int) (f : Nat → Int), 0 ≤ P → P + 1 < g 21 0 → -10 ≤ a ∧ a ≤ 10 → -10 ≤ b ∧ b ≤ 10 → tbM (dM g s) (g 21 0).toNat f P a b → (∀ (l7 l8 l9 : Option AV), J q ShW 0 0 203 [some (.inr 21), some (.inl k), some (.inl P), some (.inl a), some (.inl b), some (.inl (er0 (dM g s) P.toNat a b)), some (.inl (enc (bV (dM g s) ((g 21 0).toNat - 1 - P.toNat) P.toNat a b))), l7, l8, l9] [] (row g 34 f)) → ∀ n : Nat, ∀ (c v bst : Int) (l8 l9 : Option AV), (11 - c).toNat = n → -10 ≤ c → c ≤ 11 → 0 ≤ v → bst = enc v → mnP (bF (dM g s) (bV (dM g s) ((g 21 0).toNat - 2 - P.toNat) (P.toNat + 1)) P.toNat a b) c v → J q ShW 0 0 87 [some (.inr 21), some (.inl k), some (.inl P), some (.inl a), some (.inl b), some (.inl (er0 (dM g s) P.toNat a b)), some (.inl bst), some (.inl c), l8, l9] [] (row g 34 f) := by
    intro P a b f hP0 hP1 ha hb hT kk
    refine byN _ (fun n ih c v bst l8 l9 hn2 hc1 hc2 hv hbs hI => ?_)
    have hv2 := hI.1
    have hev := enc_c hv2
    have e210 : (row g 34 f) 21 0 = g 21 0 := rfl
    have hLf : LM (row g 34 f) := hL
    refine j_iload C dX5_layLeast_87 rfl ?_
    refine j_bipush C dX5_layLeast_89 (by decide +kernel) ?_
    refine j_icmp_gt C (tgt := 203) dX5_layLeast_91 (by decide) (by first | omega | (refine ⟨?_, ?_⟩ <;> omega) | exact hw _ _ | exact nrm_R _) (by first | omega | (refine ⟨?_, ?_⟩ <;> omega) | exact hw _ _ | exact nrm_R _) (fun c_91 => ?_) (fun c_91 => ?_)
    · first
      | (exfalso; omega)
      | (have e9 : v = bV (dM g s) ((g 21 0).toNat - 1 - P.toNat) P.toNat a b := by
           rw [show (g 21 0).toNat - 1 - P.toNat = ((g 21 0).toNat - 2 - P.toNat) + 1 by omega]
           exact mnP_end (fun x q1 q2 q3 => by omega) hI
         rw [hbs, e9]
         exact kk _ _ _)
    · have hcc : -10 ≤ c ∧ c ≤ 10 := ⟨hc1, by omega⟩
      have hr := erc_b hD P.toNat ha hb hcc
      have hr2 := (er0_b hD P.toNat ha hb hcc).2
      have hE : erc (dM g s) P.toNat a b c = ((er0 (dM g s) P.toNat a b + g 21 13 * c).natAbs : Int) := rfl
      have hr3 : -2300 ≤ er0 (dM g s) P.toNat a b + g 21 13 * c ∧ er0 (dM g s) P.toNat a b + g 21 13 * c ≤ 2300 := hr2
      have hWb := bV_b hD ((g 21 0).toNat - 2 - P.toNat) (P.toNat + 1) b c hb hcc
      have hew := enc_c hWb.2.1
      have eix : (441 * (P + 1) + 21 * (b + 10) + c + 10).toNat = sp3 (P + 1) b c := by
        unfold sp3
        congr 1
        omega
      have hTc : (row g 34 f) 34 (sp3 (P + 1) b c) = enc (bV (dM g s) ((g 21 0).toNat - 2 - P.toNat) (P.toNat + 1) b c) := by
        have z := hT (P.toNat + 1) (by omega) b c hb hcc (Or.inl (by omega))
        rw [show ((P.toNat + 1 : Nat) : Int) = P + 1 by omega, show (g 21 0).toNat - 1 - (P.toNat + 1) = (g 21 0).toNat - 2 - P.toNat by omega] at z
        exact z
      have htg := tog_c (a := erc (dM g s) P.toNat a b c) (b := bV (dM g s) ((g 21 0).toNat - 2 - P.toNat) (P.toNat + 1) b c) hs
      have e13 : (row g 34 f) 21 13 = g 21 13 := rfl
      have htg2 := tog_c (a := erc (dM g s) P.toNat a b c) (b := enc (bV (dM g s) ((g 21 0).toNat - 2 - P.toNat) (P.toNat + 1) b c)) hs
      have htg3 := tog_c (a := erc (dM g s) P.toNat a b c) (b := -1) hs
      refine j_iload_n C dX5_layLeast_94 rfl ?_
      refine j_aload_n C dX5_layLeast_95 rfl ?_
      refine j_getI C fX5_layLeast_7 rfl rfl dX5_layLeast_96 ?_
      rw [e210]
      refine j_iconst C dX5_layLeast_99 ?_
      refine j_isub C dX5_layLeast_100 ?_
      refine j_icmp_ge C (tgt := 203) dX5_layLeast_101 (by decide) (by first | omega | (refine ⟨?_, ?_⟩ <;> omega) | exact hw _ _ | exact nrm_R _) (by first | omega | (refine ⟨?_, ?_⟩ <;> omega) | exact hw _ _ | exact nrm_R _) (fun c_101 => ?_) (fun c_101 => ?_)
      · first
        | (exfalso; omega)
        | (have e9 : v = bV (dM g s) ((g 21 0).toNat - 1 - P.toNat) P.toNat a b := by
             rw [show (g 21 0).toNat - 1 - P.toNat = ((g 21 0).toNat - 2 - P.toNat) + 1 by omega]
             exact mnP_end (fun x q1 q2 q3 => by omega) hI
           rw [hbs, e9]
           exact kk _ _ _)
      · refine j_aload_n C dX5_layLeast_104 rfl ?_
        refine j_iload_n C dX5_layLeast_105 rfl ?_
        refine j_iload_n C dX5_layLeast_106 rfl ?_
        refine j_iload C dX5_layLeast_107 rfl ?_
        refine j_iload C dX5_layLeast_109 rfl ?_
        refine j_callVi4 C vX5_layLeast_119 rfl rfl (Nat.le_of_ble_eq_true rfl) ⟨Nat.zero_le _, Nat.zero_le _⟩ dX5_layLeast_111 (ct_X5_goes (s := s) ⟨hLf, hP0, by omega, ha.1, ha.2, hb.1, hb.2, hcc.1, hcc.2⟩) (fun x_111 g_111 hk_111 => ?_)
        obtain ⟨e_111, hb_111, hi_111⟩ := hk_111
        have e_111 := e_111.symm
        subst e_111
        refine j_if_eq C (tgt := 147) dX5_layLeast_114 (by decide) (by first | omega | (refine ⟨?_, ?_⟩ <;> omega) | exact hw _ _ | exact nrm_R _) (fun c_114 => ?_) (fun c_114 => ?_)
        · refine j_iconst C dX5_layLeast_147 ?_
          refine j_istore C dX5_layLeast_148 (Nat.le_of_ble_eq_true rfl) ?_
          dsimp only [List.set]
          refine j_iload_n C dX5_layLeast_150 rfl ?_
          refine j_iload C dX5_layLeast_151 rfl ?_
          refine j_aload_n C dX5_layLeast_153 rfl ?_
          refine j_getI C fX5_layLeast_106 rfl rfl dX5_layLeast_154 ?_
          rw [e13]
          refine j_iload C dX5_layLeast_157 rfl ?_
          refine j_imul C dX5_layLeast_159 ?_
          refine j_iadd C dX5_layLeast_160 ?_
          
          refine j_callSi1 C vX5_layLeast_99 rfl (Nat.le_of_ble_eq_true rfl) ⟨Nat.zero_le _, Nat.zero_le _⟩ dX5_layLeast_161 (ct_X5_size ⟨by omega, by omega⟩) (fun x_161 g_161 hk_161 => ?_)
          obtain ⟨e_161, rfl⟩ := hk_161
          have e_161 := e_161.symm
          subst e_161
          rw [← hE]
          refine j_iload C dX5_layLeast_164 rfl ?_
          refine j_callSi3 C vX5_layLeast_112 rfl (Nat.le_of_ble_eq_true rfl) ⟨Nat.zero_le _, Nat.zero_le _⟩ dX5_layLeast_166 (ct_X5_with ⟨⟨by omega, by omega⟩, ⟨by omega, by omega⟩, hk⟩) (fun x_166 g_166 hk_166 => ?_)
          obtain ⟨e_166, rfl⟩ := hk_166
          have e_166 := e_166.symm
          subst e_166
          rw [← hks]
          refine j_istore C dX5_layLeast_169 (Nat.le_of_ble_eq_true rfl) ?_
          dsimp only [List.set]
          refine j_iload C dX5_layLeast_171 rfl ?_
          refine j_if_lt C (tgt := 193) dX5_layLeast_173 (by decide) (by first | omega | (refine ⟨?_, ?_⟩ <;> omega) | exact hw _ _ | exact nrm_R _) (fun c_173 => ?_) (fun c_173 => ?_)
          · refine j_iload C dX5_layLeast_193 rfl ?_
            refine j_istore C dX5_layLeast_195 (Nat.le_of_ble_eq_true rfl) ?_
            dsimp only [List.set]
            refine j_iinc C dX5_layLeast_197 rfl ?_
            dsimp only [List.set]
            refine j_goto C (tgt := 87) dX5_layLeast_200 (by decide) ?_
            first
            | (exfalso; omega)
            | (have hFc : (bF (dM g s) (bV (dM g s) ((g 21 0).toNat - 2 - P.toNat) (P.toNat + 1)) P.toNat a b) c = 1000000 := cif_f (fun z => by have := hi_111.mpr z; omega)
               exact ih _ (by omega) (c + 1) v _ _ _ rfl (by omega) (by omega) hv hbs (mnP_step (by omega) (by omega) (by omega) hI))
            | (have hFc : (bF (dM g s) (bV (dM g s) ((g 21 0).toNat - 2 - P.toNat) (P.toNat + 1)) P.toNat a b) c = tog s (erc (dM g s) P.toNat a b c) (bV (dM g s) ((g 21 0).toNat - 2 - P.toNat) (P.toNat + 1) b c) := cif_t (hi_111.mp (by omega))
               exact ih _ (by omega) (c + 1) v _ _ _ rfl (by omega) (by omega) hv hbs (mnP_step (by omega) (by omega) (by omega) hI))
            | (have hFc : (bF (dM g s) (bV (dM g s) ((g 21 0).toNat - 2 - P.toNat) (P.toNat + 1)) P.toNat a b) c = tog s (erc (dM g s) P.toNat a b c) (bV (dM g s) ((g 21 0).toNat - 2 - P.toNat) (P.toNat + 1) b c) := cif_t (hi_111.mp (by omega))
               have hee : enc (bV (dM g s) ((g 21 0).toNat - 2 - P.toNat) (P.toNat + 1) b c) = (bV (dM g s) ((g 21 0).toNat - 2 - P.toNat) (P.toNat + 1) b c) := by omega
               have hlt : (bV (dM g s) ((g 21 0).toNat - 2 - P.toNat) (P.toNat + 1) b c) < 1000000 := by omega
               have hb2 := hWb.2.2 hlt
               have hec := enc_c (v := tog s (erc (dM g s) P.toNat a b c) (bV (dM g s) ((g 21 0).toNat - 2 - P.toNat) (P.toNat + 1) b c)) (by omega)
               exact ih _ (by omega) (c + 1) (tog s (erc (dM g s) P.toNat a b c) (bV (dM g s) ((g 21 0).toNat - 2 - P.toNat) (P.toNat + 1) b c)) _ _ _ rfl (by omega) (by omega) (by omega) (by rw [hee]; omega) (mnP_step (by omega) (by omega) (by omega) hI))
          · refine j_iload C dX5_layLeast_176 rfl ?_
            refine j_if_lt C (tgt := 188) dX5_layLeast_178 (by decide) (by first | omega | (refine ⟨?_, ?_⟩ <;> omega) | exact hw _ _ | exact nrm_R _) (fun c_178 => ?_) (fun c_178 => ?_)
            · refine j_iload C dX5_layLeast_188 rfl ?_
              refine j_goto C (tgt := 195) dX5_layLeast_190 (by decide) ?_
              refine j_istore C dX5_layLeast_195 (Nat.le_of_ble_eq_true rfl) ?_
              dsimp only [List.set]
              refine j_iinc C dX5_layLeast_197 rfl ?_
              dsimp only [List.set]
              refine j_goto C (tgt := 87) dX5_layLeast_200 (by decide) ?_
              first
              | (exfalso; omega)
              | (have hFc : (bF (dM g s) (bV (dM g s) ((g 21 0).toNat - 2 - P.toNat) (P.toNat + 1)) P.toNat a b) c = 1000000 := cif_f (fun z => by have := hi_111.mpr z; omega)
                 exact ih _ (by omega) (c + 1) v _ _ _ rfl (by omega) (by omega) hv hbs (mnP_step (by omega) (by omega) (by omega) hI))
              | (have hFc : (bF (dM g s) (bV (dM g s) ((g 21 0).toNat - 2 - P.toNat) (P.toNat + 1)) P.toNat a b) c = tog s (erc (dM g s) P.toNat a b c) (bV (dM g s) ((g 21 0).toNat - 2 - P.toNat) (P.toNat + 1) b c) := cif_t (hi_111.mp (by omega))
                 exact ih _ (by omega) (c + 1) v _ _ _ rfl (by omega) (by omega) hv hbs (mnP_step (by omega) (by omega) (by omega) hI))
              | (have hFc : (bF (dM g s) (bV (dM g s) ((g 21 0).toNat - 2 - P.toNat) (P.toNat + 1)) P.toNat a b) c = tog s (erc (dM g s) P.toNat a b c) (bV (dM g s) ((g 21 0).toNat - 2 - P.toNat) (P.toNat + 1) b c) := cif_t (hi_111.mp (by omega))
                 have hee : enc (bV (dM g s) ((g 21 0).toNat - 2 - P.toNat) (P.toNat + 1) b c) = (bV (dM g s) ((g 21 0).toNat - 2 - P.toNat) (P.toNat + 1) b c) := by omega
                 have hlt : (bV (dM g s) ((g 21 0).toNat - 2 - P.toNat) (P.toNat + 1) b c) < 1000000 := by omega
                 have hb2 := hWb.2.2 hlt
                 have hec := enc_c (v := tog s (erc (dM g s) P.toNat a b c) (bV (dM g s) ((g 21 0).toNat - 2 - P.toNat) (P.toNat + 1) b c)) (by omega)
                 exact ih _ (by omega) (c + 1) (tog s (erc (dM g s) P.toNat a b c) (bV (dM g s) ((g 21 0).toNat - 2 - P.toNat) (P.toNat + 1) b c)) _ _ _ rfl (by omega) (by omega) (by omega) (by rw [hee]; omega) (mnP_step (by omega) (by omega) (by omega) hI))
            · refine j_iload C dX5_layLeast_181 rfl ?_
              refine j_iload C dX5_layLeast_183 rfl ?_
              refine j_icmp_ge C (tgt := 193) dX5_layLeast_185 (by decide) (by first | omega | (refine ⟨?_, ?_⟩ <;> omega) | exact hw _ _ | exact nrm_R _) (by first | omega | (refine ⟨?_, ?_⟩ <;> omega) | exact hw _ _ | exact nrm_R _) (fun c_185 => ?_) (fun c_185 => ?_)
              · refine j_iload C dX5_layLeast_193 rfl ?_
                refine j_istore C dX5_layLeast_195 (Nat.le_of_ble_eq_true rfl) ?_
                dsimp only [List.set]
                refine j_iinc C dX5_layLeast_197 rfl ?_
                dsimp only [List.set]
                refine j_goto C (tgt := 87) dX5_layLeast_200 (by decide) ?_
                first
                | (exfalso; omega)
                | (have hFc : (bF (dM g s) (bV (dM g s) ((g 21 0).toNat - 2 - P.toNat) (P.toNat + 1)) P.toNat a b) c = 1000000 := cif_f (fun z => by have := hi_111.mpr z; omega)
                   exact ih _ (by omega) (c + 1) v _ _ _ rfl (by omega) (by omega) hv hbs (mnP_step (by omega) (by omega) (by omega) hI))
                | (have hFc : (bF (dM g s) (bV (dM g s) ((g 21 0).toNat - 2 - P.toNat) (P.toNat + 1)) P.toNat a b) c = tog s (erc (dM g s) P.toNat a b c) (bV (dM g s) ((g 21 0).toNat - 2 - P.toNat) (P.toNat + 1) b c) := cif_t (hi_111.mp (by omega))
                   exact ih _ (by omega) (c + 1) v _ _ _ rfl (by omega) (by omega) hv hbs (mnP_step (by omega) (by omega) (by omega) hI))
                | (have hFc : (bF (dM g s) (bV (dM g s) ((g 21 0).toNat - 2 - P.toNat) (P.toNat + 1)) P.toNat a b) c = tog s (erc (dM g s) P.toNat a b c) (bV (dM g s) ((g 21 0).toNat - 2 - P.toNat) (P.toNat + 1) b c) := cif_t (hi_111.mp (by omega))
                   have hee : enc (bV (dM g s) ((g 21 0).toNat - 2 - P.toNat) (P.toNat + 1) b c) = (bV (dM g s) ((g 21 0).toNat - 2 - P.toNat) (P.toNat + 1) b c) := by omega
                   have hlt : (bV (dM g s) ((g 21 0).toNat - 2 - P.toNat) (P.toNat + 1) b c) < 1000000 := by omega
                   have hb2 := hWb.2.2 hlt
                   have hec := enc_c (v := tog s (erc (dM g s) P.toNat a b c) (bV (dM g s) ((g 21 0).toNat - 2 - P.toNat) (P.toNat + 1) b c)) (by omega)
                   exact ih _ (by omega) (c + 1) (tog s (erc (dM g s) P.toNat a b c) (bV (dM g s) ((g 21 0).toNat - 2 - P.toNat) (P.toNat + 1) b c)) _ _ _ rfl (by omega) (by omega) (by omega) (by rw [hee]; omega) (mnP_step (by omega) (by omega) (by omega) hI))
              · refine j_iload C dX5_layLeast_188 rfl ?_
                refine j_goto C (tgt := 195) dX5_layLeast_190 (by decide) ?_
                refine j_istore C dX5_layLeast_195 (Nat.le_of_ble_eq_true rfl) ?_
                dsimp only [List.set]
                refine j_iinc C dX5_layLeast_197 rfl ?_
                dsimp only [List.set]
                refine j_goto C (tgt := 87) dX5_layLeast_200 (by decide) ?_
                first
                | (exfalso; omega)
                | (have hFc : (bF (dM g s) (bV (dM g s) ((g 21 0).toNat - 2 - P.toNat) (P.toNat + 1)) P.toNat a b) c = 1000000 := cif_f (fun z => by have := hi_111.mpr z; omega)
                   exact ih _ (by omega) (c + 1) v _ _ _ rfl (by omega) (by omega) hv hbs (mnP_step (by omega) (by omega) (by omega) hI))
                | (have hFc : (bF (dM g s) (bV (dM g s) ((g 21 0).toNat - 2 - P.toNat) (P.toNat + 1)) P.toNat a b) c = tog s (erc (dM g s) P.toNat a b c) (bV (dM g s) ((g 21 0).toNat - 2 - P.toNat) (P.toNat + 1) b c) := cif_t (hi_111.mp (by omega))
                   exact ih _ (by omega) (c + 1) v _ _ _ rfl (by omega) (by omega) hv hbs (mnP_step (by omega) (by omega) (by omega) hI))
                | (have hFc : (bF (dM g s) (bV (dM g s) ((g 21 0).toNat - 2 - P.toNat) (P.toNat + 1)) P.toNat a b) c = tog s (erc (dM g s) P.toNat a b c) (bV (dM g s) ((g 21 0).toNat - 2 - P.toNat) (P.toNat + 1) b c) := cif_t (hi_111.mp (by omega))
                   have hee : enc (bV (dM g s) ((g 21 0).toNat - 2 - P.toNat) (P.toNat + 1) b c) = (bV (dM g s) ((g 21 0).toNat - 2 - P.toNat) (P.toNat + 1) b c) := by omega
                   have hlt : (bV (dM g s) ((g 21 0).toNat - 2 - P.toNat) (P.toNat + 1) b c) < 1000000 := by omega
                   have hb2 := hWb.2.2 hlt
                   have hec := enc_c (v := tog s (erc (dM g s) P.toNat a b c) (bV (dM g s) ((g 21 0).toNat - 2 - P.toNat) (P.toNat + 1) b c)) (by omega)
                   exact ih _ (by omega) (c + 1) (tog s (erc (dM g s) P.toNat a b c) (bV (dM g s) ((g 21 0).toNat - 2 - P.toNat) (P.toNat + 1) b c)) _ _ _ rfl (by omega) (by omega) (by omega) (by rw [hee]; omega) (mnP_step (by omega) (by omega) (by omega) hI))
        · refine j_aload_n C dX5_layLeast_117 rfl ?_
          refine j_getR C fX5_layLeast_60 rfl rfl dX5_layLeast_118 ?_
          refine j_sipush C dX5_layLeast_121 (by decide +kernel) ?_
          refine j_iload_n C dX5_layLeast_124 rfl ?_
          refine j_iconst C dX5_layLeast_125 ?_
          refine j_iadd C dX5_layLeast_126 ?_
          refine j_imul C dX5_layLeast_127 ?_
          refine j_bipush C dX5_layLeast_128 (by decide +kernel) ?_
          refine j_iload C dX5_layLeast_130 rfl ?_
          refine j_bipush C dX5_layLeast_132 (by decide +kernel) ?_
          refine j_iadd C dX5_layLeast_134 ?_
          refine j_imul C dX5_layLeast_135 ?_
          refine j_iadd C dX5_layLeast_136 ?_
          refine j_iload C dX5_layLeast_137 rfl ?_
          refine j_iadd C dX5_layLeast_139 ?_
          refine j_bipush C dX5_layLeast_140 (by decide +kernel) ?_
          refine j_iadd C dX5_layLeast_142 ?_
          refine j_iaload C rfl (by decide) dX5_layLeast_143 (by first | omega | (refine ⟨?_, ?_⟩ <;> omega) | exact hw _ _ | exact nrm_R _) (by first | omega | (refine ⟨?_, ?_⟩ <;> omega) | exact hw _ _ | exact nrm_R _) ?_
          rw [eix, hTc]
          refine j_goto C (tgt := 148) dX5_layLeast_144 (by decide) ?_
          refine j_istore C dX5_layLeast_148 (Nat.le_of_ble_eq_true rfl) ?_
          dsimp only [List.set]
          refine j_iload_n C dX5_layLeast_150 rfl ?_
          refine j_iload C dX5_layLeast_151 rfl ?_
          refine j_aload_n C dX5_layLeast_153 rfl ?_
          refine j_getI C fX5_layLeast_106 rfl rfl dX5_layLeast_154 ?_
          rw [e13]
          refine j_iload C dX5_layLeast_157 rfl ?_
          refine j_imul C dX5_layLeast_159 ?_
          refine j_iadd C dX5_layLeast_160 ?_
          
          refine j_callSi1 C vX5_layLeast_99 rfl (Nat.le_of_ble_eq_true rfl) ⟨Nat.zero_le _, Nat.zero_le _⟩ dX5_layLeast_161 (ct_X5_size ⟨by omega, by omega⟩) (fun x_161 g_161 hk_161 => ?_)
          obtain ⟨e_161, rfl⟩ := hk_161
          have e_161 := e_161.symm
          subst e_161
          rw [← hE]
          refine j_iload C dX5_layLeast_164 rfl ?_
          refine j_callSi3 C vX5_layLeast_112 rfl (Nat.le_of_ble_eq_true rfl) ⟨Nat.zero_le _, Nat.zero_le _⟩ dX5_layLeast_166 (ct_X5_with ⟨⟨by omega, by omega⟩, ⟨by omega, by omega⟩, hk⟩) (fun x_166 g_166 hk_166 => ?_)
          obtain ⟨e_166, rfl⟩ := hk_166
          have e_166 := e_166.symm
          subst e_166
          rw [← hks]
          refine j_istore C dX5_layLeast_169 (Nat.le_of_ble_eq_true rfl) ?_
          dsimp only [List.set]
          refine j_iload C dX5_layLeast_171 rfl ?_
          refine j_if_lt C (tgt := 193) dX5_layLeast_173 (by decide) (by first | omega | (refine ⟨?_, ?_⟩ <;> omega) | exact hw _ _ | exact nrm_R _) (fun c_173 => ?_) (fun c_173 => ?_)
          · refine j_iload C dX5_layLeast_193 rfl ?_
            refine j_istore C dX5_layLeast_195 (Nat.le_of_ble_eq_true rfl) ?_
            dsimp only [List.set]
            refine j_iinc C dX5_layLeast_197 rfl ?_
            dsimp only [List.set]
            refine j_goto C (tgt := 87) dX5_layLeast_200 (by decide) ?_
            first
            | (exfalso; omega)
            | (have hFc : (bF (dM g s) (bV (dM g s) ((g 21 0).toNat - 2 - P.toNat) (P.toNat + 1)) P.toNat a b) c = 1000000 := cif_f (fun z => by have := hi_111.mpr z; omega)
               exact ih _ (by omega) (c + 1) v _ _ _ rfl (by omega) (by omega) hv hbs (mnP_step (by omega) (by omega) (by omega) hI))
            | (have hFc : (bF (dM g s) (bV (dM g s) ((g 21 0).toNat - 2 - P.toNat) (P.toNat + 1)) P.toNat a b) c = tog s (erc (dM g s) P.toNat a b c) (bV (dM g s) ((g 21 0).toNat - 2 - P.toNat) (P.toNat + 1) b c) := cif_t (hi_111.mp (by omega))
               exact ih _ (by omega) (c + 1) v _ _ _ rfl (by omega) (by omega) hv hbs (mnP_step (by omega) (by omega) (by omega) hI))
            | (have hFc : (bF (dM g s) (bV (dM g s) ((g 21 0).toNat - 2 - P.toNat) (P.toNat + 1)) P.toNat a b) c = tog s (erc (dM g s) P.toNat a b c) (bV (dM g s) ((g 21 0).toNat - 2 - P.toNat) (P.toNat + 1) b c) := cif_t (hi_111.mp (by omega))
               have hee : enc (bV (dM g s) ((g 21 0).toNat - 2 - P.toNat) (P.toNat + 1) b c) = (bV (dM g s) ((g 21 0).toNat - 2 - P.toNat) (P.toNat + 1) b c) := by omega
               have hlt : (bV (dM g s) ((g 21 0).toNat - 2 - P.toNat) (P.toNat + 1) b c) < 1000000 := by omega
               have hb2 := hWb.2.2 hlt
               have hec := enc_c (v := tog s (erc (dM g s) P.toNat a b c) (bV (dM g s) ((g 21 0).toNat - 2 - P.toNat) (P.toNat + 1) b c)) (by omega)
               exact ih _ (by omega) (c + 1) (tog s (erc (dM g s) P.toNat a b c) (bV (dM g s) ((g 21 0).toNat - 2 - P.toNat) (P.toNat + 1) b c)) _ _ _ rfl (by omega) (by omega) (by omega) (by rw [hee]; omega) (mnP_step (by omega) (by omega) (by omega) hI))
          · refine j_iload C dX5_layLeast_176 rfl ?_
            refine j_if_lt C (tgt := 188) dX5_layLeast_178 (by decide) (by first | omega | (refine ⟨?_, ?_⟩ <;> omega) | exact hw _ _ | exact nrm_R _) (fun c_178 => ?_) (fun c_178 => ?_)
            · refine j_iload C dX5_layLeast_188 rfl ?_
              refine j_goto C (tgt := 195) dX5_layLeast_190 (by decide) ?_
              refine j_istore C dX5_layLeast_195 (Nat.le_of_ble_eq_true rfl) ?_
              dsimp only [List.set]
              refine j_iinc C dX5_layLeast_197 rfl ?_
              dsimp only [List.set]
              refine j_goto C (tgt := 87) dX5_layLeast_200 (by decide) ?_
              first
              | (exfalso; omega)
              | (have hFc : (bF (dM g s) (bV (dM g s) ((g 21 0).toNat - 2 - P.toNat) (P.toNat + 1)) P.toNat a b) c = 1000000 := cif_f (fun z => by have := hi_111.mpr z; omega)
                 exact ih _ (by omega) (c + 1) v _ _ _ rfl (by omega) (by omega) hv hbs (mnP_step (by omega) (by omega) (by omega) hI))
              | (have hFc : (bF (dM g s) (bV (dM g s) ((g 21 0).toNat - 2 - P.toNat) (P.toNat + 1)) P.toNat a b) c = tog s (erc (dM g s) P.toNat a b c) (bV (dM g s) ((g 21 0).toNat - 2 - P.toNat) (P.toNat + 1) b c) := cif_t (hi_111.mp (by omega))
                 exact ih _ (by omega) (c + 1) v _ _ _ rfl (by omega) (by omega) hv hbs (mnP_step (by omega) (by omega) (by omega) hI))
              | (have hFc : (bF (dM g s) (bV (dM g s) ((g 21 0).toNat - 2 - P.toNat) (P.toNat + 1)) P.toNat a b) c = tog s (erc (dM g s) P.toNat a b c) (bV (dM g s) ((g 21 0).toNat - 2 - P.toNat) (P.toNat + 1) b c) := cif_t (hi_111.mp (by omega))
                 have hee : enc (bV (dM g s) ((g 21 0).toNat - 2 - P.toNat) (P.toNat + 1) b c) = (bV (dM g s) ((g 21 0).toNat - 2 - P.toNat) (P.toNat + 1) b c) := by omega
                 have hlt : (bV (dM g s) ((g 21 0).toNat - 2 - P.toNat) (P.toNat + 1) b c) < 1000000 := by omega
                 have hb2 := hWb.2.2 hlt
                 have hec := enc_c (v := tog s (erc (dM g s) P.toNat a b c) (bV (dM g s) ((g 21 0).toNat - 2 - P.toNat) (P.toNat + 1) b c)) (by omega)
                 exact ih _ (by omega) (c + 1) (tog s (erc (dM g s) P.toNat a b c) (bV (dM g s) ((g 21 0).toNat - 2 - P.toNat) (P.toNat + 1) b c)) _ _ _ rfl (by omega) (by omega) (by omega) (by rw [hee]; omega) (mnP_step (by omega) (by omega) (by omega) hI))
            · refine j_iload C dX5_layLeast_181 rfl ?_
              refine j_iload C dX5_layLeast_183 rfl ?_
              refine j_icmp_ge C (tgt := 193) dX5_layLeast_185 (by decide) (by first | omega | (refine ⟨?_, ?_⟩ <;> omega) | exact hw _ _ | exact nrm_R _) (by first | omega | (refine ⟨?_, ?_⟩ <;> omega) | exact hw _ _ | exact nrm_R _) (fun c_185 => ?_) (fun c_185 => ?_)
              · refine j_iload C dX5_layLeast_193 rfl ?_
                refine j_istore C dX5_layLeast_195 (Nat.le_of_ble_eq_true rfl) ?_
                dsimp only [List.set]
                refine j_iinc C dX5_layLeast_197 rfl ?_
                dsimp only [List.set]
                refine j_goto C (tgt := 87) dX5_layLeast_200 (by decide) ?_
                first
                | (exfalso; omega)
                | (have hFc : (bF (dM g s) (bV (dM g s) ((g 21 0).toNat - 2 - P.toNat) (P.toNat + 1)) P.toNat a b) c = 1000000 := cif_f (fun z => by have := hi_111.mpr z; omega)
                   exact ih _ (by omega) (c + 1) v _ _ _ rfl (by omega) (by omega) hv hbs (mnP_step (by omega) (by omega) (by omega) hI))
                | (have hFc : (bF (dM g s) (bV (dM g s) ((g 21 0).toNat - 2 - P.toNat) (P.toNat + 1)) P.toNat a b) c = tog s (erc (dM g s) P.toNat a b c) (bV (dM g s) ((g 21 0).toNat - 2 - P.toNat) (P.toNat + 1) b c) := cif_t (hi_111.mp (by omega))
                   exact ih _ (by omega) (c + 1) v _ _ _ rfl (by omega) (by omega) hv hbs (mnP_step (by omega) (by omega) (by omega) hI))
                | (have hFc : (bF (dM g s) (bV (dM g s) ((g 21 0).toNat - 2 - P.toNat) (P.toNat + 1)) P.toNat a b) c = tog s (erc (dM g s) P.toNat a b c) (bV (dM g s) ((g 21 0).toNat - 2 - P.toNat) (P.toNat + 1) b c) := cif_t (hi_111.mp (by omega))
                   have hee : enc (bV (dM g s) ((g 21 0).toNat - 2 - P.toNat) (P.toNat + 1) b c) = (bV (dM g s) ((g 21 0).toNat - 2 - P.toNat) (P.toNat + 1) b c) := by omega
                   have hlt : (bV (dM g s) ((g 21 0).toNat - 2 - P.toNat) (P.toNat + 1) b c) < 1000000 := by omega
                   have hb2 := hWb.2.2 hlt
                   have hec := enc_c (v := tog s (erc (dM g s) P.toNat a b c) (bV (dM g s) ((g 21 0).toNat - 2 - P.toNat) (P.toNat + 1) b c)) (by omega)
                   exact ih _ (by omega) (c + 1) (tog s (erc (dM g s) P.toNat a b c) (bV (dM g s) ((g 21 0).toNat - 2 - P.toNat) (P.toNat + 1) b c)) _ _ _ rfl (by omega) (by omega) (by omega) (by rw [hee]; omega) (mnP_step (by omega) (by omega) (by omega) hI))
              · refine j_iload C dX5_layLeast_188 rfl ?_
                refine j_goto C (tgt := 195) dX5_layLeast_190 (by decide) ?_
                refine j_istore C dX5_layLeast_195 (Nat.le_of_ble_eq_true rfl) ?_
                dsimp only [List.set]
                refine j_iinc C dX5_layLeast_197 rfl ?_
                dsimp only [List.set]
                refine j_goto C (tgt := 87) dX5_layLeast_200 (by decide) ?_
                first
                | (exfalso; omega)
                | (have hFc : (bF (dM g s) (bV (dM g s) ((g 21 0).toNat - 2 - P.toNat) (P.toNat + 1)) P.toNat a b) c = 1000000 := cif_f (fun z => by have := hi_111.mpr z; omega)
                   exact ih _ (by omega) (c + 1) v _ _ _ rfl (by omega) (by omega) hv hbs (mnP_step (by omega) (by omega) (by omega) hI))
                | (have hFc : (bF (dM g s) (bV (dM g s) ((g 21 0).toNat - 2 - P.toNat) (P.toNat + 1)) P.toNat a b) c = tog s (erc (dM g s) P.toNat a b c) (bV (dM g s) ((g 21 0).toNat - 2 - P.toNat) (P.toNat + 1) b c) := cif_t (hi_111.mp (by omega))
                   exact ih _ (by omega) (c + 1) v _ _ _ rfl (by omega) (by omega) hv hbs (mnP_step (by omega) (by omega) (by omega) hI))
                | (have hFc : (bF (dM g s) (bV (dM g s) ((g 21 0).toNat - 2 - P.toNat) (P.toNat + 1)) P.toNat a b) c = tog s (erc (dM g s) P.toNat a b c) (bV (dM g s) ((g 21 0).toNat - 2 - P.toNat) (P.toNat + 1) b c) := cif_t (hi_111.mp (by omega))
                   have hee : enc (bV (dM g s) ((g 21 0).toNat - 2 - P.toNat) (P.toNat + 1) b c) = (bV (dM g s) ((g 21 0).toNat - 2 - P.toNat) (P.toNat + 1) b c) := by omega
                   have hlt : (bV (dM g s) ((g 21 0).toNat - 2 - P.toNat) (P.toNat + 1) b c) < 1000000 := by omega
                   have hb2 := hWb.2.2 hlt
                   have hec := enc_c (v := tog s (erc (dM g s) P.toNat a b c) (bV (dM g s) ((g 21 0).toNat - 2 - P.toNat) (P.toNat + 1) b c)) (by omega)
                   exact ih _ (by omega) (c + 1) (tog s (erc (dM g s) P.toNat a b c) (bV (dM g s) ((g 21 0).toNat - 2 - P.toNat) (P.toNat + 1) b c)) _ _ _ rfl (by omega) (by omega) (by omega) (by rw [hee]; omega) (mnP_step (by omega) (by omega) (by omega) hI))
  have lpb : ∀ (P a : Int), 0 ≤ P → P < g 21 0 → -10 ≤ a ∧ a ≤ 10 → (∀ (f : Nat → Int) (l4 l5 l6 l7 l8 l9 : Option AV), tbM (dM g s) (g 21 0).toNat f P a 11 → J q ShW 0 0 235 [some (.inr 21), some (.inl k), some (.inl P), some (.inl a), l4, l5, l6, l7, l8, l9] [] (row g 34 f)) → ∀ n : Nat, ∀ (b : Int) (f : Nat → Int) (l5 l6 l7 l8 l9 : Option AV), (11 - b).toNat = n → -10 ≤ b → b ≤ 11 → tbM (dM g s) (g 21 0).toNat f P a b → J q ShW 0 0 24 [some (.inr 21), some (.inl k), some (.inl P), some (.inl a), some (.inl b), l5, l6, l7, l8, l9] [] (row g 34 f) := by
    intro P a hP0 hP1 ha kk
    refine byN _ (fun n ih b f l5 l6 l7 l8 l9 hn2 hb1 hb2 hT => ?_)
    have e210 : (row g 34 f) 21 0 = g 21 0 := rfl
    refine j_iload C dX5_layLeast_24 rfl ?_
    refine j_bipush C dX5_layLeast_26 (by decide +kernel) ?_
    refine j_icmp_gt C (tgt := 235) dX5_layLeast_28 (by decide) (by first | omega | (refine ⟨?_, ?_⟩ <;> omega) | exact hw _ _ | exact nrm_R _) (by first | omega | (refine ⟨?_, ?_⟩ <;> omega) | exact hw _ _ | exact nrm_R _) (fun c_28 => ?_) (fun c_28 => ?_)
    · refine kk f _ _ _ _ _ _ ?_
      rw [show b = 11 by omega] at hT
      exact hT
    · have hbb : -10 ≤ b ∧ b ≤ 10 := ⟨hb1, by omega⟩
      have hr := (er0_b (c := 0) hD P.toNat ha hbb ⟨by omega, by omega⟩).1
      have hVb := bV_b hD ((g 21 0).toNat - 1 - P.toNat) P.toNat a b ha hbb
      have hVe := enc_c hVb.2.1
      have eo1 : P = 0 → (row g 34 f) 28 P.toNat + (row g 34 f) 21 12 * b + (row g 34 f) 21 13 * 0 = er0 (dM g s) P.toNat a b := fun z => by
        unfold er0
        rw [if_pos (by omega), Int.mul_zero]
        rfl
      have eo2 : ¬ P = 0 → (row g 34 f) 28 P.toNat + (row g 34 f) 21 12 * b + (row g 34 f) 21 13 * a = er0 (dM g s) P.toNat a b := fun z => by
        unfold er0
        rw [if_neg (by omega)]
        rfl
      have eix : (441 * P + 21 * (a + 10) + b + 10).toNat = sp3 P a b := by
        unfold sp3
        congr 1
        omega
      have tl : ∀ (l7 l8 l9 : Option AV), J q ShW 0 0 203 [some (.inr 21), some (.inl k), some (.inl P), some (.inl a), some (.inl b), some (.inl (er0 (dM g s) P.toNat a b)), some (.inl (enc (bV (dM g s) ((g 21 0).toNat - 1 - P.toNat) P.toNat a b))), l7, l8, l9] [] (row g 34 f) := by
        intro l7 l8 l9
        refine j_aload_n C dX5_layLeast_203 rfl ?_
        refine j_getR C fX5_layLeast_60 rfl rfl dX5_layLeast_204 ?_
        refine j_sipush C dX5_layLeast_207 (by decide +kernel) ?_
        refine j_iload_n C dX5_layLeast_210 rfl ?_
        refine j_imul C dX5_layLeast_211 ?_
        refine j_bipush C dX5_layLeast_212 (by decide +kernel) ?_
        refine j_iload_n C dX5_layLeast_214 rfl ?_
        refine j_bipush C dX5_layLeast_215 (by decide +kernel) ?_
        refine j_iadd C dX5_layLeast_217 ?_
        refine j_imul C dX5_layLeast_218 ?_
        refine j_iadd C dX5_layLeast_219 ?_
        refine j_iload C dX5_layLeast_220 rfl ?_
        refine j_iadd C dX5_layLeast_222 ?_
        refine j_bipush C dX5_layLeast_223 (by decide +kernel) ?_
        refine j_iadd C dX5_layLeast_225 ?_
        refine j_iload C dX5_layLeast_226 rfl ?_
        refine j_iastore C rfl (by decide) dX5_layLeast_228 (by first | omega | (refine ⟨?_, ?_⟩ <;> omega) | exact hw _ _ | exact nrm_R _) (by first | omega | (refine ⟨?_, ?_⟩ <;> omega) | exact hw _ _ | exact nrm_R _) (by first | omega | (refine ⟨?_, ?_⟩ <;> omega) | exact hw _ _ | exact nrm_R _) ?_
        refine j_iinc C dX5_layLeast_229 rfl ?_
        dsimp only [List.set]
        refine j_goto C (tgt := 24) dX5_layLeast_232 (by decide) ?_
        refine j_cast (ih _ (by omega) (b + 1) (fun j => if j = sp3 P a b then enc (bV (dM g s) ((g 21 0).toNat - 1 - P.toNat) P.toNat a b) else f j) _ _ _ _ _ rfl (by omega) (by omega) (tbM_s hP0 ha hbb rfl hT)) rfl rfl ?_
        rw [eix]
        funext k' j
        by_cases a6 : k' = 34
        · subst a6
          simp [row, aset]
        · simp [row, aset, a6]
      refine j_aload_n C dX5_layLeast_31 rfl ?_
      refine j_getR C fX5_layLeast_33 rfl rfl dX5_layLeast_32 ?_
      refine j_iload_n C dX5_layLeast_35 rfl ?_
      refine j_iaload C rfl (by decide) dX5_layLeast_36 (by first | omega | (refine ⟨?_, ?_⟩ <;> omega) | exact hw _ _ | exact nrm_R _) (by first | omega | (refine ⟨?_, ?_⟩ <;> omega) | exact hw _ _ | exact nrm_R _) ?_
      refine j_aload_n C dX5_layLeast_37 rfl ?_
      refine j_getI C fX5_layLeast_45 rfl rfl dX5_layLeast_38 ?_
      refine j_iload C dX5_layLeast_41 rfl ?_
      refine j_imul C dX5_layLeast_43 ?_
      refine j_iadd C dX5_layLeast_44 ?_
      refine j_aload_n C dX5_layLeast_45 rfl ?_
      refine j_getI C fX5_layLeast_106 rfl rfl dX5_layLeast_46 ?_
      refine j_iload_n C dX5_layLeast_49 rfl ?_
      refine j_if_ne C (tgt := 57) dX5_layLeast_50 (by decide) (by first | omega | (refine ⟨?_, ?_⟩ <;> omega) | exact hw _ _ | exact nrm_R _) (fun c_50 => ?_) (fun c_50 => ?_)
      · refine j_iload_n C dX5_layLeast_57 rfl ?_
        refine j_imul C dX5_layLeast_58 ?_
        refine j_iadd C dX5_layLeast_59 ?_
        first | rw [eo1 c_50] | rw [eo2 c_50]
        refine j_istore C dX5_layLeast_60 (Nat.le_of_ble_eq_true rfl) ?_
        dsimp only [List.set]
        refine j_iload_n C dX5_layLeast_62 rfl ?_
        refine j_aload_n C dX5_layLeast_63 rfl ?_
        refine j_getI C fX5_layLeast_7 rfl rfl dX5_layLeast_64 ?_
        rw [e210]
        refine j_iconst C dX5_layLeast_67 ?_
        refine j_isub C dX5_layLeast_68 ?_
        refine j_icmp_ne C (tgt := 80) dX5_layLeast_69 (by decide) (by first | omega | (refine ⟨?_, ?_⟩ <;> omega) | exact hw _ _ | exact nrm_R _) (by first | omega | (refine ⟨?_, ?_⟩ <;> omega) | exact hw _ _ | exact nrm_R _) (fun c_69 => ?_) (fun c_69 => ?_)
        · refine j_iconst C dX5_layLeast_80 ?_
          refine j_istore C dX5_layLeast_81 (Nat.le_of_ble_eq_true rfl) ?_
          dsimp only [List.set]
          refine j_bipush C dX5_layLeast_83 (by decide +kernel) ?_
          refine j_istore C dX5_layLeast_85 (Nat.le_of_ble_eq_true rfl) ?_
          dsimp only [List.set]
          first
          | (have hlast : P + 1 < g 21 0 := by omega
             exact inn P a b f hP0 hlast ha hbb hT tl _ (-10) 1000000 _ _ _ rfl (by omega) (by omega) (by omega) rfl (mnP_start (fun x q1 q2 q3 => by omega)))
          | (have hz : ((er0 (dM g s) P.toNat a b).natAbs : Int) = enc (bV (dM g s) ((g 21 0).toNat - 1 - P.toNat) P.toNat a b) := by
               have e9 : bV (dM g s) ((g 21 0).toNat - 1 - P.toNat) P.toNat a b = ((er0 (dM g s) P.toNat a b).natAbs : Int) := by
                 rw [show (g 21 0).toNat - 1 - P.toNat = 0 by omega]
                 rfl
               omega
             rw [hz]
             refine j_iload C dX5_layLeast_87 rfl ?_
             refine j_bipush C dX5_layLeast_89 (by decide +kernel) ?_
             refine j_icmp_gt C (tgt := 203) dX5_layLeast_91 (by decide) (by first | omega | (refine ⟨?_, ?_⟩ <;> omega) | exact hw _ _ | exact nrm_R _) (by first | omega | (refine ⟨?_, ?_⟩ <;> omega) | exact hw _ _ | exact nrm_R _) (fun c_91 => ?_) (fun c_91 => ?_)
             · first | exact tl _ _ _ | (exfalso; omega)
             · refine j_iload_n C dX5_layLeast_94 rfl ?_
               refine j_aload_n C dX5_layLeast_95 rfl ?_
               refine j_getI C fX5_layLeast_7 rfl rfl dX5_layLeast_96 ?_
               rw [e210]
               refine j_iconst C dX5_layLeast_99 ?_
               refine j_isub C dX5_layLeast_100 ?_
               refine j_icmp_ge C (tgt := 203) dX5_layLeast_101 (by decide) (by first | omega | (refine ⟨?_, ?_⟩ <;> omega) | exact hw _ _ | exact nrm_R _) (by first | omega | (refine ⟨?_, ?_⟩ <;> omega) | exact hw _ _ | exact nrm_R _) (fun c_101 => ?_) (fun c_101 => ?_)
               · first | exact tl _ _ _ | (exfalso; omega)
               · exact absurd c_101 (by first | omega | (refine ⟨?_, ?_⟩ <;> omega) | exact hw _ _ | exact nrm_R _))
        · refine j_iload C dX5_layLeast_72 rfl ?_
          refine j_callSi1 C vX5_layLeast_99 rfl (Nat.le_of_ble_eq_true rfl) ⟨Nat.zero_le _, Nat.zero_le _⟩ dX5_layLeast_74 (ct_X5_size ⟨by omega, by omega⟩) (fun x_74 g_74 hk_74 => ?_)
          obtain ⟨e_74, rfl⟩ := hk_74
          have e_74 := e_74.symm
          subst e_74
          refine j_goto C (tgt := 81) dX5_layLeast_77 (by decide) ?_
          refine j_istore C dX5_layLeast_81 (Nat.le_of_ble_eq_true rfl) ?_
          dsimp only [List.set]
          refine j_bipush C dX5_layLeast_83 (by decide +kernel) ?_
          refine j_istore C dX5_layLeast_85 (Nat.le_of_ble_eq_true rfl) ?_
          dsimp only [List.set]
          first
          | (have hlast : P + 1 < g 21 0 := by omega
             exact inn P a b f hP0 hlast ha hbb hT tl _ (-10) 1000000 _ _ _ rfl (by omega) (by omega) (by omega) rfl (mnP_start (fun x q1 q2 q3 => by omega)))
          | (have hz : ((er0 (dM g s) P.toNat a b).natAbs : Int) = enc (bV (dM g s) ((g 21 0).toNat - 1 - P.toNat) P.toNat a b) := by
               have e9 : bV (dM g s) ((g 21 0).toNat - 1 - P.toNat) P.toNat a b = ((er0 (dM g s) P.toNat a b).natAbs : Int) := by
                 rw [show (g 21 0).toNat - 1 - P.toNat = 0 by omega]
                 rfl
               omega
             rw [hz]
             refine j_iload C dX5_layLeast_87 rfl ?_
             refine j_bipush C dX5_layLeast_89 (by decide +kernel) ?_
             refine j_icmp_gt C (tgt := 203) dX5_layLeast_91 (by decide) (by first | omega | (refine ⟨?_, ?_⟩ <;> omega) | exact hw _ _ | exact nrm_R _) (by first | omega | (refine ⟨?_, ?_⟩ <;> omega) | exact hw _ _ | exact nrm_R _) (fun c_91 => ?_) (fun c_91 => ?_)
             · first | exact tl _ _ _ | (exfalso; omega)
             · refine j_iload_n C dX5_layLeast_94 rfl ?_
               refine j_aload_n C dX5_layLeast_95 rfl ?_
               refine j_getI C fX5_layLeast_7 rfl rfl dX5_layLeast_96 ?_
               rw [e210]
               refine j_iconst C dX5_layLeast_99 ?_
               refine j_isub C dX5_layLeast_100 ?_
               refine j_icmp_ge C (tgt := 203) dX5_layLeast_101 (by decide) (by first | omega | (refine ⟨?_, ?_⟩ <;> omega) | exact hw _ _ | exact nrm_R _) (by first | omega | (refine ⟨?_, ?_⟩ <;> omega) | exact hw _ _ | exact nrm_R _) (fun c_101 => ?_) (fun c_101 => ?_)
               · first | exact tl _ _ _ | (exfalso; omega)
               · exact absurd c_101 (by first | omega | (refine ⟨?_, ?_⟩ <;> omega) | exact hw _ _ | exact nrm_R _))
      · refine j_iconst C dX5_layLeast_53 ?_
        refine j_goto C (tgt := 58) dX5_layLeast_54 (by decide) ?_
        refine j_imul C dX5_layLeast_58 ?_
        refine j_iadd C dX5_layLeast_59 ?_
        first | rw [eo1 c_50] | rw [eo2 c_50]
        refine j_istore C dX5_layLeast_60 (Nat.le_of_ble_eq_true rfl) ?_
        dsimp only [List.set]
        refine j_iload_n C dX5_layLeast_62 rfl ?_
        refine j_aload_n C dX5_layLeast_63 rfl ?_
        refine j_getI C fX5_layLeast_7 rfl rfl dX5_layLeast_64 ?_
        rw [e210]
        refine j_iconst C dX5_layLeast_67 ?_
        refine j_isub C dX5_layLeast_68 ?_
        refine j_icmp_ne C (tgt := 80) dX5_layLeast_69 (by decide) (by first | omega | (refine ⟨?_, ?_⟩ <;> omega) | exact hw _ _ | exact nrm_R _) (by first | omega | (refine ⟨?_, ?_⟩ <;> omega) | exact hw _ _ | exact nrm_R _) (fun c_69 => ?_) (fun c_69 => ?_)
        · refine j_iconst C dX5_layLeast_80 ?_
          refine j_istore C dX5_layLeast_81 (Nat.le_of_ble_eq_true rfl) ?_
          dsimp only [List.set]
          refine j_bipush C dX5_layLeast_83 (by decide +kernel) ?_
          refine j_istore C dX5_layLeast_85 (Nat.le_of_ble_eq_true rfl) ?_
          dsimp only [List.set]
          first
          | (have hlast : P + 1 < g 21 0 := by omega
             exact inn P a b f hP0 hlast ha hbb hT tl _ (-10) 1000000 _ _ _ rfl (by omega) (by omega) (by omega) rfl (mnP_start (fun x q1 q2 q3 => by omega)))
          | (have hz : ((er0 (dM g s) P.toNat a b).natAbs : Int) = enc (bV (dM g s) ((g 21 0).toNat - 1 - P.toNat) P.toNat a b) := by
               have e9 : bV (dM g s) ((g 21 0).toNat - 1 - P.toNat) P.toNat a b = ((er0 (dM g s) P.toNat a b).natAbs : Int) := by
                 rw [show (g 21 0).toNat - 1 - P.toNat = 0 by omega]
                 rfl
               omega
             rw [hz]
             refine j_iload C dX5_layLeast_87 rfl ?_
             refine j_bipush C dX5_layLeast_89 (by decide +kernel) ?_
             refine j_icmp_gt C (tgt := 203) dX5_layLeast_91 (by decide) (by first | omega | (refine ⟨?_, ?_⟩ <;> omega) | exact hw _ _ | exact nrm_R _) (by first | omega | (refine ⟨?_, ?_⟩ <;> omega) | exact hw _ _ | exact nrm_R _) (fun c_91 => ?_) (fun c_91 => ?_)
             · first | exact tl _ _ _ | (exfalso; omega)
             · refine j_iload_n C dX5_layLeast_94 rfl ?_
               refine j_aload_n C dX5_layLeast_95 rfl ?_
               refine j_getI C fX5_layLeast_7 rfl rfl dX5_layLeast_96 ?_
               rw [e210]
               refine j_iconst C dX5_layLeast_99 ?_
               refine j_isub C dX5_layLeast_100 ?_
               refine j_icmp_ge C (tgt := 203) dX5_layLeast_101 (by decide) (by first | omega | (refine ⟨?_, ?_⟩ <;> omega) | exact hw _ _ | exact nrm_R _) (by first | omega | (refine ⟨?_, ?_⟩ <;> omega) | exact hw _ _ | exact nrm_R _) (fun c_101 => ?_) (fun c_101 => ?_)
               · first | exact tl _ _ _ | (exfalso; omega)
               · exact absurd c_101 (by first | omega | (refine ⟨?_, ?_⟩ <;> omega) | exact hw _ _ | exact nrm_R _))
        · refine j_iload C dX5_layLeast_72 rfl ?_
          refine j_callSi1 C vX5_layLeast_99 rfl (Nat.le_of_ble_eq_true rfl) ⟨Nat.zero_le _, Nat.zero_le _⟩ dX5_layLeast_74 (ct_X5_size ⟨by omega, by omega⟩) (fun x_74 g_74 hk_74 => ?_)
          obtain ⟨e_74, rfl⟩ := hk_74
          have e_74 := e_74.symm
          subst e_74
          refine j_goto C (tgt := 81) dX5_layLeast_77 (by decide) ?_
          refine j_istore C dX5_layLeast_81 (Nat.le_of_ble_eq_true rfl) ?_
          dsimp only [List.set]
          refine j_bipush C dX5_layLeast_83 (by decide +kernel) ?_
          refine j_istore C dX5_layLeast_85 (Nat.le_of_ble_eq_true rfl) ?_
          dsimp only [List.set]
          first
          | (have hlast : P + 1 < g 21 0 := by omega
             exact inn P a b f hP0 hlast ha hbb hT tl _ (-10) 1000000 _ _ _ rfl (by omega) (by omega) (by omega) rfl (mnP_start (fun x q1 q2 q3 => by omega)))
          | (have hz : ((er0 (dM g s) P.toNat a b).natAbs : Int) = enc (bV (dM g s) ((g 21 0).toNat - 1 - P.toNat) P.toNat a b) := by
               have e9 : bV (dM g s) ((g 21 0).toNat - 1 - P.toNat) P.toNat a b = ((er0 (dM g s) P.toNat a b).natAbs : Int) := by
                 rw [show (g 21 0).toNat - 1 - P.toNat = 0 by omega]
                 rfl
               omega
             rw [hz]
             refine j_iload C dX5_layLeast_87 rfl ?_
             refine j_bipush C dX5_layLeast_89 (by decide +kernel) ?_
             refine j_icmp_gt C (tgt := 203) dX5_layLeast_91 (by decide) (by first | omega | (refine ⟨?_, ?_⟩ <;> omega) | exact hw _ _ | exact nrm_R _) (by first | omega | (refine ⟨?_, ?_⟩ <;> omega) | exact hw _ _ | exact nrm_R _) (fun c_91 => ?_) (fun c_91 => ?_)
             · first | exact tl _ _ _ | (exfalso; omega)
             · refine j_iload_n C dX5_layLeast_94 rfl ?_
               refine j_aload_n C dX5_layLeast_95 rfl ?_
               refine j_getI C fX5_layLeast_7 rfl rfl dX5_layLeast_96 ?_
               rw [e210]
               refine j_iconst C dX5_layLeast_99 ?_
               refine j_isub C dX5_layLeast_100 ?_
               refine j_icmp_ge C (tgt := 203) dX5_layLeast_101 (by decide) (by first | omega | (refine ⟨?_, ?_⟩ <;> omega) | exact hw _ _ | exact nrm_R _) (by first | omega | (refine ⟨?_, ?_⟩ <;> omega) | exact hw _ _ | exact nrm_R _) (fun c_101 => ?_) (fun c_101 => ?_)
               · first | exact tl _ _ _ | (exfalso; omega)
               · exact absurd c_101 (by first | omega | (refine ⟨?_, ?_⟩ <;> omega) | exact hw _ _ | exact nrm_R _))
  have lpa : ∀ (P : Int), 0 ≤ P → P < g 21 0 → (∀ (f : Nat → Int) (l3 l4 l5 l6 l7 l8 l9 : Option AV), tbM (dM g s) (g 21 0).toNat f P 11 (-10) → J q ShW 0 0 241 [some (.inr 21), some (.inl k), some (.inl P), l3, l4, l5, l6, l7, l8, l9] [] (row g 34 f)) → ∀ n : Nat, ∀ (a : Int) (f : Nat → Int) (l4 l5 l6 l7 l8 l9 : Option AV), (11 - a).toNat = n → -10 ≤ a → a ≤ 11 → tbM (dM g s) (g 21 0).toNat f P a (-10) → J q ShW 0 0 14 [some (.inr 21), some (.inl k), some (.inl P), some (.inl a), l4, l5, l6, l7, l8, l9] [] (row g 34 f) := by
    intro P hP0 hP1 kk
    refine byN _ (fun n ih a f l4 l5 l6 l7 l8 l9 hn2 ha1 ha2 hT => ?_)
    refine j_iload_n C dX5_layLeast_14 rfl ?_
    refine j_bipush C dX5_layLeast_15 (by decide +kernel) ?_
    refine j_icmp_gt C (tgt := 241) dX5_layLeast_17 (by decide) (by first | omega | (refine ⟨?_, ?_⟩ <;> omega) | exact hw _ _ | exact nrm_R _) (by first | omega | (refine ⟨?_, ?_⟩ <;> omega) | exact hw _ _ | exact nrm_R _) (fun c_17 => ?_) (fun c_17 => ?_)
    · refine kk f _ _ _ _ _ _ _ ?_
      rw [show a = 11 by omega] at hT
      exact hT
    · refine j_bipush C dX5_layLeast_20 (by decide +kernel) ?_
      refine j_istore C dX5_layLeast_22 (Nat.le_of_ble_eq_true rfl) ?_
      dsimp only [List.set]
      refine lpb P a hP0 hP1 ⟨ha1, by omega⟩ (fun f l4 l5 l6 l7 l8 l9 hT => ?_) _ (-10) f _ _ _ _ _ rfl (by omega) (by omega) hT
      refine j_iinc C dX5_layLeast_235 rfl ?_
      dsimp only [List.set]
      refine j_goto C (tgt := 14) dX5_layLeast_238 (by decide) ?_
      exact ih _ (by omega) (a + 1) f _ _ _ _ _ _ rfl (by omega) (by omega) (fun p' q0 a' b' q1 q2 q3 => hT p' q0 a' b' q1 q2 (by omega))
  have lp : ∀ n : Nat, ∀ (P : Int) (f : Nat → Int) (l3 l4 l5 l6 l7 l8 l9 : Option AV), (P + 1).toNat = n → -1 ≤ P → P < g 21 0 → tbM (dM g s) (g 21 0).toNat f P (-10) (-10) → J q ShW 0 0 7 [some (.inr 21), some (.inl k), some (.inl P), l3, l4, l5, l6, l7, l8, l9] [] (row g 34 f) := by
    refine byN _ (fun n ih P f l3 l4 l5 l6 l7 l8 l9 hn2 hP0 hP1 hT => ?_)
    refine j_iload_n C dX5_layLeast_7 rfl ?_
    refine j_if_lt C (tgt := 247) dX5_layLeast_8 (by decide) (by first | omega | (refine ⟨?_, ?_⟩ <;> omega) | exact hw _ _ | exact nrm_R _) (fun c_8 => ?_) (fun c_8 => ?_)
    · refine j_vretV C dX5_layLeast_247 (fun hw9 => ?_)
      exact ⟨f, rfl, fun p' q0 a' b' q1 q2 => hT p' q0 a' b' q1 q2 (Or.inl (by omega))⟩
    · refine j_bipush C dX5_layLeast_11 (by decide +kernel) ?_
      refine j_istore_n C dX5_layLeast_13 (Nat.le_of_ble_eq_true rfl) ?_
      dsimp only [List.set]
      refine lpa P (by omega) hP1 (fun f l3 l4 l5 l6 l7 l8 l9 hT => ?_) _ (-10) f _ _ _ _ _ _ rfl (by omega) (by omega) hT
      refine j_iinc C dX5_layLeast_241 rfl ?_
      dsimp only [List.set]
      refine j_goto C (tgt := 7) dX5_layLeast_244 (by decide) ?_
      exact ih _ (by omega) (P + -1) f _ _ _ _ _ _ _ rfl (by omega) (by omega) (fun p' q0 a' b' q1 q2 q3 => hT p' q0 a' b' q1 q2 (by omega))
  refine j_aload_n C dX5_layLeast_0 rfl ?_
  refine j_getI C fX5_layLeast_7 rfl rfl dX5_layLeast_1 ?_
  refine j_iconst C dX5_layLeast_4 ?_
  refine j_isub C dX5_layLeast_5 ?_
  refine j_istore_n C dX5_layLeast_6 (Nat.le_of_ble_eq_true rfl) ?_
  dsimp only [List.set]
  refine j_cast (lp _ (g 21 0 - 1) (g 34) none none none none none none none rfl (by omega) (by omega) (fun p' q0 a' b' q1 q2 q3 => by omega)) rfl rfl ?_
  rw [row_id]
