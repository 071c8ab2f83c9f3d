theorem sp3_inj {p a b a' b' : Int} (hp : 0 ≤ p) (ha : -10 ≤ a ∧ a ≤ 10) (hb : -10 ≤ b ∧ b ≤ 10) (ha' : -10 ≤ a' ∧ a' ≤ 10) (hb' : -10 ≤ b' ∧ b' ≤ 10) (h : sp3 p a b = sp3 p a' b') : a = a' ∧ b = b' := by
  unfold sp3 at h
  omega
theorem sp3_in {p a b : Int} (hp : 0 ≤ p) (ha : -10 ≤ a ∧ a ≤ 10) (hb : -10 ≤ b ∧ b ≤ 10) : 441 * p.toNat ≤ sp3 p a b ∧ sp3 p a b < 441 * p.toNat + 441 := by
  unfold sp3
  omega
theorem okc_iff {D : BD} {p : Nat} {a b x : Int} (hp : p ≠ 0) : (-10 ≤ x ∧ x ≤ 10 ∧ okc D p a b x) ↔ max (-10) (max (b - D.2.2.2.1) (2 * b - a - D.2.2.2.2.1)) ≤ x ∧ x ≤ min 10 (min (b + D.2.2.2.1) (2 * b - a + D.2.2.2.2.1)) := by
  unfold okc
  omega
set_option maxHeartbeats 4000000 in
set_option maxRecDepth 100000 in
theorem ct_X2_lowestAfter {a b : Int} {g : AG} (h : LX g ∧ -10 ≤ a ∧ a ≤ 10 ∧ -10 ≤ b ∧ b ≤ 10) : MetI yX2_lowestAfter wsX2_lowestAfter rmX2_lowestAfter ShW [.inr 8, .inl a, .inl b] g (fun x g' => g' = g ∧ x = max (-10) (max (b - g 8 3) (2 * b - a - g 8 4))) := by
  refine metI_of (cc := cX2_lowestAfter) (nL := 3) false (by decide +kernel) rfl (Nat.le_of_ble_eq_true rfl) (fun q J C => ?_)
  show J q ShW 0 0 0 [some (.inr 8), some (.inl a), some (.inl b)] [] g
  refine j_wf C (fun hw => ?_)
  obtain ⟨hL, h1, h2, h3, h4⟩ := h
  have hx := hL.2.1
  have hd := hL.2.2.1
  refine j_bipush C dX2_lowestAfter_0 (by decide +kernel) ?_
  refine j_iload_n C dX2_lowestAfter_2 rfl ?_
  refine j_aload_n C dX2_lowestAfter_3 rfl ?_
  refine j_getI C fX2_lowestAfter_22 rfl rfl dX2_lowestAfter_4 ?_
  refine j_isub C dX2_lowestAfter_7 ?_
  refine j_iconst C dX2_lowestAfter_8 ?_
  refine j_iload_n C dX2_lowestAfter_9 rfl ?_
  refine j_imul C dX2_lowestAfter_10 ?_
  refine j_iload_n C dX2_lowestAfter_11 rfl ?_
  refine j_isub C dX2_lowestAfter_12 ?_
  refine j_aload_n C dX2_lowestAfter_13 rfl ?_
  refine j_getI C fX2_lowestAfter_25 rfl rfl dX2_lowestAfter_14 ?_
  refine j_isub C dX2_lowestAfter_17 ?_
  refine j_mmax C vX2_lowestAfter_63 rfl ⟨Nat.le_of_ble_eq_true rfl, Nat.le_of_ble_eq_true rfl, Nat.zero_le _, Nat.zero_le _⟩ dX2_lowestAfter_18 (by first | omega | (refine ⟨?_, ?_⟩ <;> omega) | exact hw _ _ | exact nrm_R _) (by first | omega | (refine ⟨?_, ?_⟩ <;> omega) | exact hw _ _ | exact nrm_R _) ?_
  refine j_mmax C vX2_lowestAfter_63 rfl ⟨Nat.le_of_ble_eq_true rfl, Nat.le_of_ble_eq_true rfl, Nat.zero_le _, Nat.zero_le _⟩ dX2_lowestAfter_21 (by first | omega | (refine ⟨?_, ?_⟩ <;> omega) | exact hw _ _ | exact nrm_R _) (by first | omega | (refine ⟨?_, ?_⟩ <;> omega) | exact hw _ _ | exact nrm_R _) ?_
  refine j_iretI C dX2_lowestAfter_24 (by intro h; cases h) (fun hw9 => ?_)
  exact ⟨rfl, rfl⟩
set_option maxHeartbeats 4000000 in
set_option maxRecDepth 100000 in
theorem ct_X2_highestAfter {a b : Int} {g : AG} (h : LX g ∧ -10 ≤ a ∧ a ≤ 10 ∧ -10 ≤ b ∧ b ≤ 10) : MetI yX2_highestAfter wsX2_highestAfter rmX2_highestAfter ShW [.inr 8, .inl a, .inl b] g (fun x g' => g' = g ∧ x = min 10 (min (b + g 8 3) (2 * b - a + g 8 4))) := by
  refine metI_of (cc := cX2_highestAfter) (nL := 3) false (by decide +kernel) rfl (Nat.le_of_ble_eq_true rfl) (fun q J C => ?_)
  show J q ShW 0 0 0 [some (.inr 8), some (.inl a), some (.inl b)] [] g
  refine j_wf C (fun hw => ?_)
  obtain ⟨hL, h1, h2, h3, h4⟩ := h
  have hx := hL.2.1
  have hd := hL.2.2.1
  refine j_bipush C dX2_highestAfter_0 (by decide +kernel) ?_
  refine j_iload_n C dX2_highestAfter_2 rfl ?_
  refine j_aload_n C dX2_highestAfter_3 rfl ?_
  refine j_getI C fX2_highestAfter_22 rfl rfl dX2_highestAfter_4 ?_
  refine j_iadd C dX2_highestAfter_7 ?_
  refine j_iconst C dX2_highestAfter_8 ?_
  refine j_iload_n C dX2_highestAfter_9 rfl ?_
  refine j_imul C dX2_highestAfter_10 ?_
  refine j_iload_n C dX2_highestAfter_11 rfl ?_
  refine j_isub C dX2_highestAfter_12 ?_
  refine j_aload_n C dX2_highestAfter_13 rfl ?_
  refine j_getI C fX2_highestAfter_25 rfl rfl dX2_highestAfter_14 ?_
  refine j_iadd C dX2_highestAfter_17 ?_
  refine j_mmin C vX2_highestAfter_86 rfl ⟨Nat.le_of_ble_eq_true rfl, Nat.le_of_ble_eq_true rfl, Nat.zero_le _, Nat.zero_le _⟩ dX2_highestAfter_18 (by first | omega | (refine ⟨?_, ?_⟩ <;> omega) | exact hw _ _ | exact nrm_R _) (by first | omega | (refine ⟨?_, ?_⟩ <;> omega) | exact hw _ _ | exact nrm_R _) ?_
  refine j_mmin C vX2_highestAfter_86 rfl ⟨Nat.le_of_ble_eq_true rfl, Nat.le_of_ble_eq_true rfl, Nat.zero_le _, Nat.zero_le _⟩ dX2_highestAfter_21 (by first | omega | (refine ⟨?_, ?_⟩ <;> omega) | exact hw _ _ | exact nrm_R _) (by first | omega | (refine ⟨?_, ?_⟩ <;> omega) | exact hw _ _ | exact nrm_R _) ?_
  refine j_iretI C dX2_highestAfter_24 (by intro h; cases h) (fun hw9 => ?_)
  exact ⟨rfl, rfl⟩
set_option maxHeartbeats 4000000 in
set_option maxRecDepth 100000 in
theorem ct_X2_leastRest {p a b s : Int} {W : Int → Int → Int} {g : AG} (h : LX g ∧ (s = 0 ∨ s = 1) ∧ 1 ≤ p ∧ p ≤ g 8 2 - 2 ∧ -10 ≤ a ∧ a ≤ 10 ∧ -10 ≤ b ∧ b ≤ 10 ∧ (∀ c, -10 ≤ c → c ≤ 10 → ((b - c).natAbs : Int) ≤ g 8 3 → g 11 (sp3 (p + 1) b c) = W b c) ∧ (∀ c, -10 ≤ c → c ≤ 10 → 0 ≤ W b c ∧ W b c ≤ 1000000)) : MetI yX2_leastRest wsX2_leastRest rmX2_leastRest ShW [.inr 8, .inl p, .inl a, .inl b, .inl s] g (fun x g' => g' = g ∧ x = mnF (bF (dX g s) W p.toNat a b) 21) := by
  refine metI_of (cc := cX2_leastRest) (nL := 14) false (by decide +kernel) rfl (Nat.le_of_ble_eq_true rfl) (fun q J C => ?_)
  show J q ShW 0 0 0 [some (.inr 8), some (.inl p), some (.inl a), some (.inl b), some (.inl s), none, none, none, none, none, none, none, none, none] [] g
  refine j_wf C (fun hw => ?_)
  obtain ⟨hL, hs, hp1, hp2, ha1, ha2, hb1, hb2, hT, hWb⟩ := h
  have hn := hL.1
  have hD := dI_X hL hs
  have hnx := hL.2.1
  have hbd := hL.2.2.1
  have he : er0 (dX g s) p.toNat a b = (g 9 p.toNat + g 8 5 * b + g 8 6 * a) := by
    unfold er0
    rw [if_neg (by omega)]
    rfl
  have hok : ∀ x, (-10 ≤ x ∧ x ≤ 10 ∧ okc (dX g s) p.toNat a b x) ↔ (max (-10) (max (b - g 8 3) (2 * b - a - g 8 4))) ≤ x ∧ x ≤ (min 10 (min (b + g 8 3) (2 * b - a + g 8 4))) := fun x => okc_iff (by omega)
  have lp : ∀ k : Nat, ∀ (c le : Int) (l10 l11 l12 l13 : Option AV), (11 - c).toNat = k → (max (-10) (max (b - g 8 3) (2 * b - a - g 8 4))) ≤ c → c ≤ 40 → 0 ≤ le → mnP (bF (dX g s) W p.toNat a b) c le → J q ShW 0 0 52 [some (.inr 8), some (.inl p), some (.inl a), some (.inl b), some (.inl s), some (.inl le), some (.inl (g 9 p.toNat + g 8 5 * b + g 8 6 * a)), some (.inl (((p + 1) * 21 + b + 10) * 21 + 0 + 10)), some (.inl (min 10 (min (b + g 8 3) (2 * b - a + g 8 4)))), some (.inl c), l10, l11, l12, l13] [] g := by
    refine byN _ (fun k ih c le l10 l11 l12 l13 hk hc hc40 hle hI => ?_)
    have hle2 := hI.1
    refine j_iload C dX2_leastRest_52 rfl ?_
    refine j_iload C dX2_leastRest_54 rfl ?_
    refine j_icmp_gt C (tgt := 144) dX2_leastRest_56 (by decide) (by first | omega | (refine ⟨?_, ?_⟩ <;> omega) | exact hw _ _ | exact nrm_R _) (by first | omega | (refine ⟨?_, ?_⟩ <;> omega) | exact hw _ _ | exact nrm_R _) (fun c_56 => ?_) (fun c_56 => ?_)
    · refine j_iload C dX2_leastRest_144 rfl ?_
      refine j_iretI C dX2_leastRest_146 (by intro h; cases h) (fun hw9 => ?_)
      refine ⟨rfl, mnP_end (fun x q1 q2 q3 => ?_) hI⟩
      unfold bF
      rw [cif_f (fun z => by have := (hok x).mp ⟨q1, q2, z⟩; omega)]
      exact Int.le_refl _
    · have hc9 := (hok c).mpr ⟨hc, by omega⟩
      have hr := erc_b hD p.toNat (a := a) (b := b) (c := c) ⟨ha1, ha2⟩ ⟨hb1, hb2⟩ ⟨hc9.1, hc9.2.1⟩
      have hE : erc (dX g s) p.toNat a b c = (((g 9 p.toNat + g 8 5 * b + g 8 6 * a) + g 8 6 * c).natAbs : Int) := by
        rw [← he]
        rfl
      have hF2 : bF (dX g s) W p.toNat a b c = tog s (erc (dX g s) p.toNat a b c) (W b c) := cif_t hc9.2.2
      have eix : (((p + 1) * 21 + b + 10) * 21 + 0 + 10 + c).toNat = sp3 (p + 1) b c := by
        unfold sp3
        congr 1
        omega
      have hTc := hT c hc9.1 hc9.2.1 hc9.2.2.1
      have hW2 := hWb c hc9.1 hc9.2.1
      refine j_iload C dX2_leastRest_59 rfl ?_
      refine j_aload_n C dX2_leastRest_61 rfl ?_
      refine j_getI C fX2_leastRest_40 rfl rfl dX2_leastRest_62 ?_
      refine j_iload C dX2_leastRest_65 rfl ?_
      refine j_imul C dX2_leastRest_67 ?_
      refine j_iadd C dX2_leastRest_68 ?_
      refine j_istore C dX2_leastRest_69 (Nat.le_of_ble_eq_true rfl) ?_
      dsimp only [List.set]
      refine j_iload C dX2_leastRest_71 rfl ?_
      refine j_if_ge C (tgt := 82) dX2_leastRest_73 (by decide) (by first | omega | (refine ⟨?_, ?_⟩ <;> omega) | exact hw _ _ | exact nrm_R _) (fun c_73 => ?_) (fun c_73 => ?_)
      · refine j_iload C dX2_leastRest_82 rfl ?_
        refine j_istore C dX2_leastRest_84 (Nat.le_of_ble_eq_true rfl) ?_
        dsimp only [List.set]
        refine j_aload_n C dX2_leastRest_86 rfl ?_
        refine j_getR C fX2_leastRest_31 rfl rfl dX2_leastRest_87 ?_
        refine j_iload C dX2_leastRest_90 rfl ?_
        refine j_iload C dX2_leastRest_92 rfl ?_
        refine j_iadd C dX2_leastRest_94 ?_
        refine j_iaload C rfl (by decide) dX2_leastRest_95 (by first | omega | (refine ⟨?_, ?_⟩ <;> omega) | exact hw _ _ | exact nrm_R _) (by first | omega | (refine ⟨?_, ?_⟩ <;> omega) | exact hw _ _ | exact nrm_R _) ?_
        rw [eix, hTc]
        refine j_istore C dX2_leastRest_96 (Nat.le_of_ble_eq_true rfl) ?_
        dsimp only [List.set]
        refine j_iload C dX2_leastRest_98 rfl ?_
        refine j_if_eq C (tgt := 111) dX2_leastRest_100 (by decide) (by first | omega | (refine ⟨?_, ?_⟩ <;> omega) | exact hw _ _ | exact nrm_R _) (fun c_100 => ?_) (fun c_100 => ?_)
        · refine j_iload C dX2_leastRest_111 rfl ?_
          refine j_iload C dX2_leastRest_113 rfl ?_
          refine j_icmp_le C (tgt := 123) dX2_leastRest_115 (by decide) (by first | omega | (refine ⟨?_, ?_⟩ <;> omega) | exact hw _ _ | exact nrm_R _) (by first | omega | (refine ⟨?_, ?_⟩ <;> omega) | exact hw _ _ | exact nrm_R _) (fun c_115 => ?_) (fun c_115 => ?_)
          · refine j_iload C dX2_leastRest_123 rfl ?_
            refine j_istore C dX2_leastRest_125 (Nat.le_of_ble_eq_true rfl) ?_
            dsimp only [List.set]
            refine j_iload C dX2_leastRest_127 rfl ?_
            refine j_iload C dX2_leastRest_129 rfl ?_
            refine j_icmp_ge C (tgt := 138) dX2_leastRest_131 (by decide) (by first | omega | (refine ⟨?_, ?_⟩ <;> omega) | exact hw _ _ | exact nrm_R _) (by first | omega | (refine ⟨?_, ?_⟩ <;> omega) | exact hw _ _ | exact nrm_R _) (fun c_131 => ?_) (fun c_131 => ?_)
            · refine j_iinc C dX2_leastRest_138 rfl ?_
              dsimp only [List.set]
              refine j_goto C (tgt := 52) dX2_leastRest_141 (by decide) ?_
              refine ih _ (by omega) (c + 1) _ _ _ _ _ rfl (by omega) (by omega) (by omega) (mnP_step (by omega) (by omega) ?_ hI)
              rw [hF2, hE]
              unfold tog
              first
              | (rw [if_pos c_100]; omega)
              | (rw [if_neg c_100]; omega)
            · refine j_iload C dX2_leastRest_134 rfl ?_
              refine j_istore C dX2_leastRest_136 (Nat.le_of_ble_eq_true rfl) ?_
              dsimp only [List.set]
              refine j_iinc C dX2_leastRest_138 rfl ?_
              dsimp only [List.set]
              refine j_goto C (tgt := 52) dX2_leastRest_141 (by decide) ?_
              refine ih _ (by omega) (c + 1) _ _ _ _ _ rfl (by omega) (by omega) (by omega) (mnP_step (by omega) (by omega) ?_ hI)
              rw [hF2, hE]
              unfold tog
              first
              | (rw [if_pos c_100]; omega)
              | (rw [if_neg c_100]; omega)
          · refine j_iload C dX2_leastRest_118 rfl ?_
            refine j_goto C (tgt := 125) dX2_leastRest_120 (by decide) ?_
            refine j_istore C dX2_leastRest_125 (Nat.le_of_ble_eq_true rfl) ?_
            dsimp only [List.set]
            refine j_iload C dX2_leastRest_127 rfl ?_
            refine j_iload C dX2_leastRest_129 rfl ?_
            refine j_icmp_ge C (tgt := 138) dX2_leastRest_131 (by decide) (by first | omega | (refine ⟨?_, ?_⟩ <;> omega) | exact hw _ _ | exact nrm_R _) (by first | omega | (refine ⟨?_, ?_⟩ <;> omega) | exact hw _ _ | exact nrm_R _) (fun c_131 => ?_) (fun c_131 => ?_)
            · refine j_iinc C dX2_leastRest_138 rfl ?_
              dsimp only [List.set]
              refine j_goto C (tgt := 52) dX2_leastRest_141 (by decide) ?_
              refine ih _ (by omega) (c + 1) _ _ _ _ _ rfl (by omega) (by omega) (by omega) (mnP_step (by omega) (by omega) ?_ hI)
              rw [hF2, hE]
              unfold tog
              first
              | (rw [if_pos c_100]; omega)
              | (rw [if_neg c_100]; omega)
            · refine j_iload C dX2_leastRest_134 rfl ?_
              refine j_istore C dX2_leastRest_136 (Nat.le_of_ble_eq_true rfl) ?_
              dsimp only [List.set]
              refine j_iinc C dX2_leastRest_138 rfl ?_
              dsimp only [List.set]
              refine j_goto C (tgt := 52) dX2_leastRest_141 (by decide) ?_
              refine ih _ (by omega) (c + 1) _ _ _ _ _ rfl (by omega) (by omega) (by omega) (mnP_step (by omega) (by omega) ?_ hI)
              rw [hF2, hE]
              unfold tog
              first
              | (rw [if_pos c_100]; omega)
              | (rw [if_neg c_100]; omega)
        · refine j_iload C dX2_leastRest_103 rfl ?_
          refine j_iload C dX2_leastRest_105 rfl ?_
          refine j_iadd C dX2_leastRest_107 ?_
          refine j_goto C (tgt := 125) dX2_leastRest_108 (by decide) ?_
          refine j_istore C dX2_leastRest_125 (Nat.le_of_ble_eq_true rfl) ?_
          dsimp only [List.set]
          refine j_iload C dX2_leastRest_127 rfl ?_
          refine j_iload C dX2_leastRest_129 rfl ?_
          refine j_icmp_ge C (tgt := 138) dX2_leastRest_131 (by decide) (by first | omega | (refine ⟨?_, ?_⟩ <;> omega) | exact hw _ _ | exact nrm_R _) (by first | omega | (refine ⟨?_, ?_⟩ <;> omega) | exact hw _ _ | exact nrm_R _) (fun c_131 => ?_) (fun c_131 => ?_)
          · refine j_iinc C dX2_leastRest_138 rfl ?_
            dsimp only [List.set]
            refine j_goto C (tgt := 52) dX2_leastRest_141 (by decide) ?_
            refine ih _ (by omega) (c + 1) _ _ _ _ _ rfl (by omega) (by omega) (by omega) (mnP_step (by omega) (by omega) ?_ hI)
            rw [hF2, hE]
            unfold tog
            first
            | (rw [if_pos c_100]; omega)
            | (rw [if_neg c_100]; omega)
          · refine j_iload C dX2_leastRest_134 rfl ?_
            refine j_istore C dX2_leastRest_136 (Nat.le_of_ble_eq_true rfl) ?_
            dsimp only [List.set]
            refine j_iinc C dX2_leastRest_138 rfl ?_
            dsimp only [List.set]
            refine j_goto C (tgt := 52) dX2_leastRest_141 (by decide) ?_
            refine ih _ (by omega) (c + 1) _ _ _ _ _ rfl (by omega) (by omega) (by omega) (mnP_step (by omega) (by omega) ?_ hI)
            rw [hF2, hE]
            unfold tog
            first
            | (rw [if_pos c_100]; omega)
            | (rw [if_neg c_100]; omega)
      · refine j_iload C dX2_leastRest_76 rfl ?_
        refine j_ineg C dX2_leastRest_78 ?_
        refine j_goto C (tgt := 84) dX2_leastRest_79 (by decide) ?_
        refine j_istore C dX2_leastRest_84 (Nat.le_of_ble_eq_true rfl) ?_
        dsimp only [List.set]
        refine j_aload_n C dX2_leastRest_86 rfl ?_
        refine j_getR C fX2_leastRest_31 rfl rfl dX2_leastRest_87 ?_
        refine j_iload C dX2_leastRest_90 rfl ?_
        refine j_iload C dX2_leastRest_92 rfl ?_
        refine j_iadd C dX2_leastRest_94 ?_
        refine j_iaload C rfl (by decide) dX2_leastRest_95 (by first | omega | (refine ⟨?_, ?_⟩ <;> omega) | exact hw _ _ | exact nrm_R _) (by first | omega | (refine ⟨?_, ?_⟩ <;> omega) | exact hw _ _ | exact nrm_R _) ?_
        rw [eix, hTc]
        refine j_istore C dX2_leastRest_96 (Nat.le_of_ble_eq_true rfl) ?_
        dsimp only [List.set]
        refine j_iload C dX2_leastRest_98 rfl ?_
        refine j_if_eq C (tgt := 111) dX2_leastRest_100 (by decide) (by first | omega | (refine ⟨?_, ?_⟩ <;> omega) | exact hw _ _ | exact nrm_R _) (fun c_100 => ?_) (fun c_100 => ?_)
        · refine j_iload C dX2_leastRest_111 rfl ?_
          refine j_iload C dX2_leastRest_113 rfl ?_
          refine j_icmp_le C (tgt := 123) dX2_leastRest_115 (by decide) (by first | omega | (refine ⟨?_, ?_⟩ <;> omega) | exact hw _ _ | exact nrm_R _) (by first | omega | (refine ⟨?_, ?_⟩ <;> omega) | exact hw _ _ | exact nrm_R _) (fun c_115 => ?_) (fun c_115 => ?_)
          · refine j_iload C dX2_leastRest_123 rfl ?_
            refine j_istore C dX2_leastRest_125 (Nat.le_of_ble_eq_true rfl) ?_
            dsimp only [List.set]
            refine j_iload C dX2_leastRest_127 rfl ?_
            refine j_iload C dX2_leastRest_129 rfl ?_
            refine j_icmp_ge C (tgt := 138) dX2_leastRest_131 (by decide) (by first | omega | (refine ⟨?_, ?_⟩ <;> omega) | exact hw _ _ | exact nrm_R _) (by first | omega | (refine ⟨?_, ?_⟩ <;> omega) | exact hw _ _ | exact nrm_R _) (fun c_131 => ?_) (fun c_131 => ?_)
            · refine j_iinc C dX2_leastRest_138 rfl ?_
              dsimp only [List.set]
              refine j_goto C (tgt := 52) dX2_leastRest_141 (by decide) ?_
              refine ih _ (by omega) (c + 1) _ _ _ _ _ rfl (by omega) (by omega) (by omega) (mnP_step (by omega) (by omega) ?_ hI)
              rw [hF2, hE]
              unfold tog
              first
              | (rw [if_pos c_100]; omega)
              | (rw [if_neg c_100]; omega)
            · refine j_iload C dX2_leastRest_134 rfl ?_
              refine j_istore C dX2_leastRest_136 (Nat.le_of_ble_eq_true rfl) ?_
              dsimp only [List.set]
              refine j_iinc C dX2_leastRest_138 rfl ?_
              dsimp only [List.set]
              refine j_goto C (tgt := 52) dX2_leastRest_141 (by decide) ?_
              refine ih _ (by omega) (c + 1) _ _ _ _ _ rfl (by omega) (by omega) (by omega) (mnP_step (by omega) (by omega) ?_ hI)
              rw [hF2, hE]
              unfold tog
              first
              | (rw [if_pos c_100]; omega)
              | (rw [if_neg c_100]; omega)
          · refine j_iload C dX2_leastRest_118 rfl ?_
            refine j_goto C (tgt := 125) dX2_leastRest_120 (by decide) ?_
            refine j_istore C dX2_leastRest_125 (Nat.le_of_ble_eq_true rfl) ?_
            dsimp only [List.set]
            refine j_iload C dX2_leastRest_127 rfl ?_
            refine j_iload C dX2_leastRest_129 rfl ?_
            refine j_icmp_ge C (tgt := 138) dX2_leastRest_131 (by decide) (by first | omega | (refine ⟨?_, ?_⟩ <;> omega) | exact hw _ _ | exact nrm_R _) (by first | omega | (refine ⟨?_, ?_⟩ <;> omega) | exact hw _ _ | exact nrm_R _) (fun c_131 => ?_) (fun c_131 => ?_)
            · refine j_iinc C dX2_leastRest_138 rfl ?_
              dsimp only [List.set]
              refine j_goto C (tgt := 52) dX2_leastRest_141 (by decide) ?_
              refine ih _ (by omega) (c + 1) _ _ _ _ _ rfl (by omega) (by omega) (by omega) (mnP_step (by omega) (by omega) ?_ hI)
              rw [hF2, hE]
              unfold tog
              first
              | (rw [if_pos c_100]; omega)
              | (rw [if_neg c_100]; omega)
            · refine j_iload C dX2_leastRest_134 rfl ?_
              refine j_istore C dX2_leastRest_136 (Nat.le_of_ble_eq_true rfl) ?_
              dsimp only [List.set]
              refine j_iinc C dX2_leastRest_138 rfl ?_
              dsimp only [List.set]
              refine j_goto C (tgt := 52) dX2_leastRest_141 (by decide) ?_
              refine ih _ (by omega) (c + 1) _ _ _ _ _ rfl (by omega) (by omega) (by omega) (mnP_step (by omega) (by omega) ?_ hI)
              rw [hF2, hE]
              unfold tog
              first
              | (rw [if_pos c_100]; omega)
              | (rw [if_neg c_100]; omega)
        · refine j_iload C dX2_leastRest_103 rfl ?_
          refine j_iload C dX2_leastRest_105 rfl ?_
          refine j_iadd C dX2_leastRest_107 ?_
          refine j_goto C (tgt := 125) dX2_leastRest_108 (by decide) ?_
          refine j_istore C dX2_leastRest_125 (Nat.le_of_ble_eq_true rfl) ?_
          dsimp only [List.set]
          refine j_iload C dX2_leastRest_127 rfl ?_
          refine j_iload C dX2_leastRest_129 rfl ?_
          refine j_icmp_ge C (tgt := 138) dX2_leastRest_131 (by decide) (by first | omega | (refine ⟨?_, ?_⟩ <;> omega) | exact hw _ _ | exact nrm_R _) (by first | omega | (refine ⟨?_, ?_⟩ <;> omega) | exact hw _ _ | exact nrm_R _) (fun c_131 => ?_) (fun c_131 => ?_)
          · refine j_iinc C dX2_leastRest_138 rfl ?_
            dsimp only [List.set]
            refine j_goto C (tgt := 52) dX2_leastRest_141 (by decide) ?_
            refine ih _ (by omega) (c + 1) _ _ _ _ _ rfl (by omega) (by omega) (by omega) (mnP_step (by omega) (by omega) ?_ hI)
            rw [hF2, hE]
            unfold tog
            first
            | (rw [if_pos c_100]; omega)
            | (rw [if_neg c_100]; omega)
          · refine j_iload C dX2_leastRest_134 rfl ?_
            refine j_istore C dX2_leastRest_136 (Nat.le_of_ble_eq_true rfl) ?_
            dsimp only [List.set]
            refine j_iinc C dX2_leastRest_138 rfl ?_
            dsimp only [List.set]
            refine j_goto C (tgt := 52) dX2_leastRest_141 (by decide) ?_
            refine ih _ (by omega) (c + 1) _ _ _ _ _ rfl (by omega) (by omega) (by omega) (mnP_step (by omega) (by omega) ?_ hI)
            rw [hF2, hE]
            unfold tog
            first
            | (rw [if_pos c_100]; omega)
            | (rw [if_neg c_100]; omega)
  refine j_ldc C (1000000) dX2_leastRest_0 kX2_leastRest_92 ?_
  refine j_istore C dX2_leastRest_2 (Nat.le_of_ble_eq_true rfl) ?_
  dsimp only [List.set]
  refine j_aload_n C dX2_leastRest_4 rfl ?_
  refine j_getR C fX2_leastRest_9 rfl rfl dX2_leastRest_5 ?_
  refine j_iload_n C dX2_leastRest_8 rfl ?_
  refine j_iaload C rfl (by decide) dX2_leastRest_9 (by first | omega | (refine ⟨?_, ?_⟩ <;> omega) | exact hw _ _ | exact nrm_R _) (by first | omega | (refine ⟨?_, ?_⟩ <;> omega) | exact hw _ _ | exact nrm_R _) ?_
  refine j_aload_n C dX2_leastRest_10 rfl ?_
  refine j_getI C fX2_leastRest_28 rfl rfl dX2_leastRest_11 ?_
  refine j_iload_n C dX2_leastRest_14 rfl ?_
  refine j_imul C dX2_leastRest_15 ?_
  refine j_iadd C dX2_leastRest_16 ?_
  refine j_aload_n C dX2_leastRest_17 rfl ?_
  refine j_getI C fX2_leastRest_40 rfl rfl dX2_leastRest_18 ?_
  refine j_iload_n C dX2_leastRest_21 rfl ?_
  refine j_imul C dX2_leastRest_22 ?_
  refine j_iadd C dX2_leastRest_23 ?_
  refine j_istore C dX2_leastRest_24 (Nat.le_of_ble_eq_true rfl) ?_
  dsimp only [List.set]
  refine j_iload_n C dX2_leastRest_26 rfl ?_
  refine j_iconst C dX2_leastRest_27 ?_
  refine j_iadd C dX2_leastRest_28 ?_
  refine j_iload_n C dX2_leastRest_29 rfl ?_
  refine j_iconst C dX2_leastRest_30 ?_
  refine j_callSi3 C vX2_leastRest_82 rfl (Nat.le_of_ble_eq_true rfl) ⟨Nat.zero_le _, Nat.zero_le _⟩ dX2_leastRest_31 (ct_X2_spot ) (fun x_31 g_31 hk_31 => ?_)
  obtain ⟨e_31, rfl⟩ := hk_31
  have e_31 := e_31.symm
  subst e_31
  refine j_istore C dX2_leastRest_34 (Nat.le_of_ble_eq_true rfl) ?_
  dsimp only [List.set]
  refine j_aload_n C dX2_leastRest_36 rfl ?_
  refine j_iload_n C dX2_leastRest_37 rfl ?_
  refine j_iload_n C dX2_leastRest_38 rfl ?_
  refine j_callVi2 C vX2_leastRest_93 rfl rfl (Nat.le_of_ble_eq_true rfl) ⟨Nat.zero_le _, Nat.zero_le _⟩ dX2_leastRest_39 (ct_X2_highestAfter ⟨hL, ha1, ha2, hb1, hb2⟩) (fun x_39 g_39 hk_39 => ?_)
  obtain ⟨e_39, rfl⟩ := hk_39
  have e_39 := e_39.symm
  subst e_39
  refine j_istore C dX2_leastRest_42 (Nat.le_of_ble_eq_true rfl) ?_
  dsimp only [List.set]
  refine j_aload_n C dX2_leastRest_44 rfl ?_
  refine j_iload_n C dX2_leastRest_45 rfl ?_
  refine j_iload_n C dX2_leastRest_46 rfl ?_
  refine j_callVi2 C vX2_leastRest_96 rfl rfl (Nat.le_of_ble_eq_true rfl) ⟨Nat.zero_le _, Nat.zero_le _⟩ dX2_leastRest_47 (ct_X2_lowestAfter ⟨hL, ha1, ha2, hb1, hb2⟩) (fun x_47 g_47 hk_47 => ?_)
  obtain ⟨e_47, rfl⟩ := hk_47
  have e_47 := e_47.symm
  subst e_47
  refine j_istore C dX2_leastRest_50 (Nat.le_of_ble_eq_true rfl) ?_
  dsimp only [List.set]
  refine lp _ _ _ none none none none rfl (Int.le_refl _) (by omega) (by omega) (mnP_start (fun x q1 q2 q3 => ?_))
  unfold bF
  rw [cif_f (fun z => by have := (hok x).mp ⟨q1, q2, z⟩; omega)]
  exact Int.le_refl _
set_option maxHeartbeats 4000000 in
set_option maxRecDepth 100000 in
theorem ct_X2_weighLast {s : Int} {g : AG} (h : LX g ∧ (s = 0 ∨ s = 1)) : MetV yX2_weighLast wsX2_weighLast rmX2_weighLast ShW [.inr 8] g (fun g' => ∃ f : Nat → Int, g' = row g 11 f ∧ ∀ a b, -10 ≤ a ∧ a ≤ 10 → -10 ≤ b ∧ b ≤ 10 → f (sp3 (g 8 2 - 1) a b) = ((er0 (dX g s) (g 8 2 - 1).toNat a b).natAbs : Int)) := by
  refine metV_of (cc := cX2_weighLast) (nL := 4) (by decide +kernel) rfl (Nat.le_of_ble_eq_true rfl) (fun q J C => ?_)
  show J q ShW 0 0 0 [some (.inr 8), none, none, none] [] g
  refine j_wf C (fun hw => ?_)
  obtain ⟨hL, hs⟩ := h
  have hn := hL.1
  have hD := dI_X hL hs
  have inn : ∀ (a : Int), -10 ≤ a → a ≤ 10 → (∀ (f : Nat → Int) (l3 : Option AV), (∀ a' b', -10 ≤ a' ∧ a' ≤ 10 → -10 ≤ b' ∧ b' ≤ 10 → (a' < a ∨ (a' = a ∧ b' < 11)) → f (sp3 (g 8 2 - 1) a' b') = ((er0 (dX g s) (g 8 2 - 1).toNat a' b').natAbs : Int)) → J q ShW 0 0 65 [some (.inr 8), some (.inl (g 8 2 - 1)), some (.inl a), l3] [] (row g 11 f)) → ∀ k : Nat, ∀ (b : Int) (f : Nat → Int), (11 - b).toNat = k → -10 ≤ b → b ≤ 11 → (∀ a' b', -10 ≤ a' ∧ a' ≤ 10 → -10 ≤ b' ∧ b' ≤ 10 → (a' < a ∨ (a' = a ∧ b' < b)) → f (sp3 (g 8 2 - 1) a' b') = ((er0 (dX g s) (g 8 2 - 1).toNat a' b').natAbs : Int)) → J q ShW 0 0 19 [some (.inr 8), some (.inl (g 8 2 - 1)), some (.inl a), some (.inl b)] [] (row g 11 f) := by
    intro a ha1 ha2 kk
    refine byN _ (fun k ih b f hk hb1 hb2 hI => ?_)
    have e9 : (row g 11 f) 9 = g 9 := rfl
    have e85 : (row g 11 f) 8 5 = g 8 5 := rfl
    have e86 : (row g 11 f) 8 6 = g 8 6 := rfl
    refine j_iload_n C dX2_weighLast_19 rfl ?_
    refine j_bipush C dX2_weighLast_20 (by decide +kernel) ?_
    refine j_icmp_gt C (tgt := 65) dX2_weighLast_22 (by decide) (by first | omega | (refine ⟨?_, ?_⟩ <;> omega) | exact hw _ _ | exact nrm_R _) (by first | omega | (refine ⟨?_, ?_⟩ <;> omega) | exact hw _ _ | exact nrm_R _) (fun c_22 => ?_) (fun c_22 => ?_)
    · refine kk f _ ?_
      rw [show b = 11 by omega] at hI
      exact hI
    · have hr := (er0_b (c := 0) hD (g 8 2 - 1).toNat ⟨ha1, ha2⟩ ⟨hb1, (by omega : b ≤ 10)⟩ ⟨by omega, by omega⟩).1
      have he : er0 (dX g s) (g 8 2 - 1).toNat a b = g 9 (g 8 2 - 1).toNat + g 8 5 * b + g 8 6 * a := by
        unfold er0
        rw [if_neg (by omega)]
        rfl
      have eix : (((g 8 2 - 1) * 21 + a + 10) * 21 + b + 10).toNat = sp3 (g 8 2 - 1) a b := rfl
      have efx : (row g 11 f) 9 (g 8 2 - 1).toNat + (row g 11 f) 8 5 * b + (row g 11 f) 8 6 * a = g 9 (g 8 2 - 1).toNat + g 8 5 * b + g 8 6 * a := rfl
      refine j_aload_n C dX2_weighLast_25 rfl ?_
      refine j_getR C fX2_weighLast_31 rfl rfl dX2_weighLast_26 ?_
      refine j_iload_n C dX2_weighLast_29 rfl ?_
      refine j_iload_n C dX2_weighLast_30 rfl ?_
      refine j_iload_n C dX2_weighLast_31 rfl ?_
      refine j_callSi3 C vX2_weighLast_82 rfl (Nat.le_of_ble_eq_true rfl) ⟨Nat.zero_le _, Nat.zero_le _⟩ dX2_weighLast_32 (ct_X2_spot ) (fun x_32 g_32 hk_32 => ?_)
      obtain ⟨e_32, rfl⟩ := hk_32
      have e_32 := e_32.symm
      subst e_32
      refine j_aload_n C dX2_weighLast_35 rfl ?_
      refine j_getR C fX2_weighLast_9 rfl rfl dX2_weighLast_36 ?_
      refine j_iload_n C dX2_weighLast_39 rfl ?_
      refine j_iaload C rfl (by decide) dX2_weighLast_40 (by first | omega | (refine ⟨?_, ?_⟩ <;> omega) | exact hw _ _ | exact nrm_R _) (by first | omega | (refine ⟨?_, ?_⟩ <;> omega) | exact hw _ _ | exact nrm_R _) ?_
      refine j_aload_n C dX2_weighLast_41 rfl ?_
      refine j_getI C fX2_weighLast_28 rfl rfl dX2_weighLast_42 ?_
      refine j_iload_n C dX2_weighLast_45 rfl ?_
      refine j_imul C dX2_weighLast_46 ?_
      refine j_iadd C dX2_weighLast_47 ?_
      refine j_aload_n C dX2_weighLast_48 rfl ?_
      refine j_getI C fX2_weighLast_40 rfl rfl dX2_weighLast_49 ?_
      refine j_iload_n C dX2_weighLast_52 rfl ?_
      refine j_imul C dX2_weighLast_53 ?_
      refine j_iadd C dX2_weighLast_54 ?_
      rw [efx]
      refine j_mabs C vX2_weighLast_47 rfl ⟨Nat.le_of_ble_eq_true rfl, Nat.le_of_ble_eq_true rfl, Nat.zero_le _, Nat.zero_le _⟩ dX2_weighLast_55 (by first | omega | (refine ⟨?_, ?_⟩ <;> omega) | exact hw _ _ | exact nrm_R _) (by first | omega | (refine ⟨?_, ?_⟩ <;> omega) | exact hw _ _ | exact nrm_R _) ?_
      refine j_iastore C rfl (by decide) dX2_weighLast_58 (by first | omega | (refine ⟨?_, ?_⟩ <;> omega) | exact hw _ _ | exact nrm_R _) (by first | omega | (refine ⟨?_, ?_⟩ <;> omega) | exact hw _ _ | exact nrm_R _) (by first | omega | (refine ⟨?_, ?_⟩ <;> omega) | exact hw _ _ | exact nrm_R _) ?_
      refine j_iinc C dX2_weighLast_59 rfl ?_
      dsimp only [List.set]
      refine j_goto C (tgt := 19) dX2_weighLast_62 (by decide) ?_
      refine j_cast (ih _ (by omega) (b + 1) (fun j => if j = sp3 (g 8 2 - 1) a b then ((er0 (dX g s) (g 8 2 - 1).toNat a b).natAbs : Int) else f j) rfl (by omega) (by omega) (fun a' b' q1 q2 q3 => ?_)) rfl rfl ?_
      · try dsimp only
        by_cases e : sp3 (g 8 2 - 1) a' b' = sp3 (g 8 2 - 1) a b
        · obtain ⟨e1, e2⟩ := sp3_inj (by omega) q1 q2 ⟨ha1, ha2⟩ ⟨hb1, by omega⟩ e
          subst e1; subst e2
          rw [if_pos rfl]
        · rw [if_neg e]
          refine hI a' b' q1 q2 ?_
          rcases q3 with z | ⟨z1, z2⟩
          · exact Or.inl z
          · refine Or.inr ⟨z1, ?_⟩
            rcases (show b' < b ∨ b ≤ b' by omega) with z3 | z3
            · exact z3
            · exact absurd (by rw [z1, show b' = b by omega]) e
      · rw [eix, he]
        funext k' j
        by_cases a6 : k' = 11
        · subst a6
          simp [row, aset]
        · simp [row, aset, a6]
  have lp : ∀ k : Nat, ∀ (a : Int) (f : Nat → Int) (l3 : Option AV), (11 - a).toNat = k → -10 ≤ a → a ≤ 11 → (∀ a' b', -10 ≤ a' ∧ a' ≤ 10 → -10 ≤ b' ∧ b' ≤ 10 → (a' < a ∨ (a' = a ∧ b' < -10)) → f (sp3 (g 8 2 - 1) a' b') = ((er0 (dX g s) (g 8 2 - 1).toNat a' b').natAbs : Int)) → J q ShW 0 0 10 [some (.inr 8), some (.inl (g 8 2 - 1)), some (.inl a), l3] [] (row g 11 f) := by
    refine byN _ (fun k ih a f l3 hk ha1 ha2 hI => ?_)
    refine j_iload_n C dX2_weighLast_10 rfl ?_
    refine j_bipush C dX2_weighLast_11 (by decide +kernel) ?_
    refine j_icmp_gt C (tgt := 71) dX2_weighLast_13 (by decide) (by first | omega | (refine ⟨?_, ?_⟩ <;> omega) | exact hw _ _ | exact nrm_R _) (by first | omega | (refine ⟨?_, ?_⟩ <;> omega) | exact hw _ _ | exact nrm_R _) (fun c_13 => ?_) (fun c_13 => ?_)
    · refine j_vretV C dX2_weighLast_71 (fun hw9 => ?_)
      exact ⟨f, rfl, fun a' b' q1 q2 => hI a' b' q1 q2 (Or.inl (by omega))⟩
    · refine j_bipush C dX2_weighLast_16 (by decide +kernel) ?_
      refine j_istore_n C dX2_weighLast_18 (Nat.le_of_ble_eq_true rfl) ?_
      dsimp only [List.set]
      refine inn a ha1 (by omega) (fun f l3 hf => ?_) _ (-10) f rfl (by omega) (by omega) hI
      refine j_iinc C dX2_weighLast_65 rfl ?_
      dsimp only [List.set]
      refine j_goto C (tgt := 10) dX2_weighLast_68 (by decide) ?_
      refine ih _ (by omega) (a + 1) f _ rfl (by omega) (by omega) (fun a' b' q1 q2 q3 => hf a' b' q1 q2 (by omega))
  refine j_aload_n C dX2_weighLast_0 rfl ?_
  refine j_getI C fX2_weighLast_18 rfl rfl dX2_weighLast_1 ?_
  refine j_iconst C dX2_weighLast_4 ?_
  refine j_isub C dX2_weighLast_5 ?_
  refine j_istore_n C dX2_weighLast_6 (Nat.le_of_ble_eq_true rfl) ?_
  dsimp only [List.set]
  refine j_bipush C dX2_weighLast_7 (by decide +kernel) ?_
  refine j_istore_n C dX2_weighLast_9 (Nat.le_of_ble_eq_true rfl) ?_
  dsimp only [List.set]
  refine j_cast (lp _ (-10) (g 11) none rfl (by omega) (by omega) (fun a' b' q1 q2 q3 => by omega)) rfl rfl ?_
  rw [row_id]
set_option maxHeartbeats 4000000 in
set_option maxRecDepth 100000 in
theorem ct_X2_weigh {p s : Int} {W : Int → Int → Int} {g : AG} (h : LX g ∧ (s = 0 ∨ s = 1) ∧ 1 ≤ p ∧ p ≤ g 8 2 - 2 ∧ (∀ b c, -10 ≤ b → b ≤ 10 → -10 ≤ c → c ≤ 10 → ((b - c).natAbs : Int) ≤ g 8 3 → g 11 (sp3 (p + 1) b c) = W b c) ∧ (∀ b c, -10 ≤ b → b ≤ 10 → -10 ≤ c → c ≤ 10 → 0 ≤ W b c ∧ W b c ≤ 1000000)) : MetV yX2_weigh wsX2_weigh rmX2_weigh ShW [.inr 8, .inl p, .inl s] g (fun g' => ∃ f : Nat → Int, g' = row g 11 f ∧ (∀ a b, -10 ≤ a ∧ a ≤ 10 → -10 ≤ b ∧ b ≤ 10 → ((a - b).natAbs : Int) ≤ g 8 3 → f (sp3 p a b) = mnF (bF (dX g s) W p.toNat a b) 21) ∧ (∀ j : Nat, (j < 441 * p.toNat ∨ 441 * p.toNat + 441 ≤ j) → f j = g 11 j)) := by
  refine metV_of (cc := cX2_weigh) (nL := 7) (by decide +kernel) rfl (Nat.le_of_ble_eq_true rfl) (fun q J C => ?_)
  show J q ShW 0 0 0 [some (.inr 8), some (.inl p), some (.inl s), none, none, none, none] [] g
  refine j_wf C (fun hw => ?_)
  obtain ⟨hL, hs, hp1, hp2, hT, hWb⟩ := h
  have hn := hL.1
  have hnx := hL.2.1
  have hD := dI_X hL hs
  have inn : ∀ (a : Int), -10 ≤ a → a ≤ 10 → (∀ (f : Nat → Int) (l4 l5 l6 : Option AV), (∀ j : Nat, (j < 441 * p.toNat ∨ 441 * p.toNat + 441 ≤ j) → f j = g 11 j) → (∀ a' b', -10 ≤ a' ∧ a' ≤ 10 → -10 ≤ b' ∧ b' ≤ 10 → ((a' - b').natAbs : Int) ≤ g 8 3 → (a' < a ∨ (a' = a ∧ b' < 11)) → f (sp3 p a' b') = mnF (bF (dX g s) W p.toNat a' b') 21) → J q ShW 0 0 73 [some (.inr 8), some (.inl p), some (.inl s), some (.inl a), l4, l5, l6] [] (row g 11 f)) → ∀ k : Nat, ∀ (b : Int) (f : Nat → Int), (11 - b).toNat = k → max (-10) (a - g 8 3) ≤ b → b ≤ 11 → (∀ j : Nat, (j < 441 * p.toNat ∨ 441 * p.toNat + 441 ≤ j) → f j = g 11 j) → (∀ a' b', -10 ≤ a' ∧ a' ≤ 10 → -10 ≤ b' ∧ b' ≤ 10 → ((a' - b').natAbs : Int) ≤ g 8 3 → (a' < a ∨ (a' = a ∧ b' < b)) → f (sp3 p a' b') = mnF (bF (dX g s) W p.toNat a' b') 21) → J q ShW 0 0 39 [some (.inr 8), some (.inl p), some (.inl s), some (.inl a), some (.inl (max (-10) (a - g 8 3))), some (.inl (min 10 (a + g 8 3))), some (.inl b)] [] (row g 11 f) := by
    intro a ha1 ha2 kk
    refine byN _ (fun k ih b f hk hb1 hb11 hK hI => ?_)
    refine j_iload C dX2_weigh_39 rfl ?_
    refine j_iload C dX2_weigh_41 rfl ?_
    refine j_icmp_gt C (tgt := 73) dX2_weigh_43 (by decide) (by first | omega | (refine ⟨?_, ?_⟩ <;> omega) | exact hw _ _ | exact nrm_R _) (by first | omega | (refine ⟨?_, ?_⟩ <;> omega) | exact hw _ _ | exact nrm_R _) (fun c_43 => ?_) (fun c_43 => ?_)
    · refine kk f _ _ _ hK (fun a' b' q1 q2 q4 q3 => hI a' b' q1 q2 q4 (by omega))
    · have eix : ((p * 21 + a + 10) * 21 + b + 10).toNat = sp3 p a b := rfl
      have hsi := sp3_in (p := p) (a := a) (b := b) (by omega) ⟨ha1, ha2⟩ ⟨by omega, by omega⟩
      have hmb : 0 ≤ mnF (bF (dX g s) W p.toNat a b) 21 ∧ mnF (bF (dX g s) W p.toNat a b) 21 ≤ 1000000 := by
        obtain ⟨z1, z2, z3⟩ := mnF_21 (bF (dX g s) W p.toNat a b)
        refine ⟨?_, z1⟩
        rcases z3 with z | ⟨x, y1, y2, y3, y4⟩
        · omega
        · rw [y4]
          unfold bF
          by_cases q : okc (dX g s) p.toNat a b x
          · rw [cif_t q]
            exact (tog_b (erc_b hD p.toNat ⟨ha1, ha2⟩ ⟨by omega, by omega⟩ ⟨y1, y2⟩).1 (erc_b hD p.toNat ⟨ha1, ha2⟩ ⟨by omega, by omega⟩ ⟨y1, y2⟩).2 (hWb b x (by omega) (by omega) y1 y2).1 (hWb b x (by omega) (by omega) y1 y2).2).1
          · rw [cif_f q]
            omega
      refine j_aload_n C dX2_weigh_46 rfl ?_
      refine j_getR C fX2_weigh_31 rfl rfl dX2_weigh_47 ?_
      refine j_iload_n C dX2_weigh_50 rfl ?_
      refine j_iload_n C dX2_weigh_51 rfl ?_
      refine j_iload C dX2_weigh_52 rfl ?_
      refine j_callSi3 C vX2_weigh_82 rfl (Nat.le_of_ble_eq_true rfl) ⟨Nat.zero_le _, Nat.zero_le _⟩ dX2_weigh_54 (ct_X2_spot ) (fun x_54 g_54 hk_54 => ?_)
      obtain ⟨e_54, rfl⟩ := hk_54
      have e_54 := e_54.symm
      subst e_54
      refine j_aload_n C dX2_weigh_57 rfl ?_
      refine j_iload_n C dX2_weigh_58 rfl ?_
      refine j_iload_n C dX2_weigh_59 rfl ?_
      refine j_iload C dX2_weigh_60 rfl ?_
      refine j_iload_n C dX2_weigh_62 rfl ?_
      refine j_callVi4 C vX2_weigh_89 rfl rfl (Nat.le_of_ble_eq_true rfl) ⟨Nat.zero_le _, Nat.zero_le _⟩ dX2_weigh_63 (ct_X2_leastRest (W := W) ⟨hL, hs, hp1, hp2, ha1, ha2, by omega, by omega, fun c q1 q2 q3 => (by have z9 := sp3_in (p := p + 1) (a := b) (b := c) (by omega) ⟨by omega, by omega⟩ ⟨q1, q2⟩; exact (hK _ (Or.inr (by omega))).trans (hT b c (by omega) (by omega) q1 q2 q3)), fun c q1 q2 => hWb b c (by omega) (by omega) q1 q2⟩) (fun x_63 g_63 hk_63 => ?_)
      obtain ⟨e_63, rfl⟩ := hk_63
      have e_63 := e_63.symm
      subst e_63
      have e63 : mnF (bF (dX (row g 11 f) s) W p.toNat a b) 21 = mnF (bF (dX g s) W p.toNat a b) 21 := rfl
      rw [e63]
      refine j_iastore C rfl (by decide) dX2_weigh_66 (by first | omega | (refine ⟨?_, ?_⟩ <;> omega) | exact hw _ _ | exact nrm_R _) (by first | omega | (refine ⟨?_, ?_⟩ <;> omega) | exact hw _ _ | exact nrm_R _) (by first | omega | (refine ⟨?_, ?_⟩ <;> omega) | exact hw _ _ | exact nrm_R _) ?_
      refine j_iinc C dX2_weigh_67 rfl ?_
      dsimp only [List.set]
      refine j_goto C (tgt := 39) dX2_weigh_70 (by decide) ?_
      refine j_cast (ih _ (by omega) (b + 1) (fun j => if j = sp3 p a b then mnF (bF (dX g s) W p.toNat a b) 21 else f j) rfl (by omega) (by omega) (fun j hj => ?_) (fun a' b' q1 q2 q4 q3 => ?_)) rfl rfl ?_
      · try dsimp only
        rw [if_neg (by omega)]
        exact hK j hj
      · try dsimp only
        by_cases e : sp3 p a' b' = sp3 p a b
        · obtain ⟨e1, e2⟩ := sp3_inj (by omega) q1 q2 ⟨ha1, ha2⟩ ⟨by omega, by omega⟩ e
          subst e1; subst e2
          rw [if_pos rfl]
        · rw [if_neg e]
          refine hI a' b' q1 q2 q4 ?_
          rcases q3 with z | ⟨z1, z2⟩
          · exact Or.inl z
          · refine Or.inr ⟨z1, ?_⟩
            rcases (show b' < b ∨ b ≤ b' by omega) with z3 | z3
            · exact z3
            · exact absurd (by rw [z1, show b' = b by omega]) e
      · rw [eix]
        funext k' j
        by_cases a6 : k' = 11
        · subst a6
          simp [row, aset]
        · simp [row, aset, a6]
  have lp : ∀ k : Nat, ∀ (a : Int) (f : Nat → Int) (l4 l5 l6 : Option AV), (11 - a).toNat = k → -10 ≤ a → a ≤ 11 → (∀ j : Nat, (j < 441 * p.toNat ∨ 441 * p.toNat + 441 ≤ j) → f j = g 11 j) → (∀ a' b', -10 ≤ a' ∧ a' ≤ 10 → -10 ≤ b' ∧ b' ≤ 10 → ((a' - b').natAbs : Int) ≤ g 8 3 → (a' < a ∨ (a' = a ∧ b' < -10)) → f (sp3 p a' b') = mnF (bF (dX g s) W p.toNat a' b') 21) → J q ShW 0 0 3 [some (.inr 8), some (.inl p), some (.inl s), some (.inl a), l4, l5, l6] [] (row g 11 f) := by
    refine byN _ (fun k ih a f l4 l5 l6 hk ha1 ha2 hK hI => ?_)
    have e83 : (row g 11 f) 8 3 = g 8 3 := rfl
    refine j_iload_n C dX2_weigh_3 rfl ?_
    refine j_bipush C dX2_weigh_4 (by decide +kernel) ?_
    refine j_icmp_gt C (tgt := 79) dX2_weigh_6 (by decide) (by first | omega | (refine ⟨?_, ?_⟩ <;> omega) | exact hw _ _ | exact nrm_R _) (by first | omega | (refine ⟨?_, ?_⟩ <;> omega) | exact hw _ _ | exact nrm_R _) (fun c_6 => ?_) (fun c_6 => ?_)
    · refine j_vretV C dX2_weigh_79 (fun hw9 => ?_)
      exact ⟨f, rfl, fun a' b' q1 q2 q4 => hI a' b' q1 q2 q4 (Or.inl (by omega)), hK⟩
    · refine j_bipush C dX2_weigh_9 (by decide +kernel) ?_
      refine j_iload_n C dX2_weigh_11 rfl ?_
      refine j_aload_n C dX2_weigh_12 rfl ?_
      refine j_getI C fX2_weigh_22 rfl rfl dX2_weigh_13 ?_
      rw [e83]
      refine j_isub C dX2_weigh_16 ?_
      refine j_mmax C vX2_weigh_63 rfl ⟨Nat.le_of_ble_eq_true rfl, Nat.le_of_ble_eq_true rfl, Nat.zero_le _, Nat.zero_le _⟩ dX2_weigh_17 (by first | omega | (refine ⟨?_, ?_⟩ <;> omega) | exact hw _ _ | exact nrm_R _) (by first | omega | (refine ⟨?_, ?_⟩ <;> omega) | exact hw _ _ | exact nrm_R _) ?_
      refine j_istore C dX2_weigh_20 (Nat.le_of_ble_eq_true rfl) ?_
      dsimp only [List.set]
      refine j_bipush C dX2_weigh_22 (by decide +kernel) ?_
      refine j_iload_n C dX2_weigh_24 rfl ?_
      refine j_aload_n C dX2_weigh_25 rfl ?_
      refine j_getI C fX2_weigh_22 rfl rfl dX2_weigh_26 ?_
      rw [e83]
      refine j_iadd C dX2_weigh_29 ?_
      refine j_mmin C vX2_weigh_86 rfl ⟨Nat.le_of_ble_eq_true rfl, Nat.le_of_ble_eq_true rfl, Nat.zero_le _, Nat.zero_le _⟩ dX2_weigh_30 (by first | omega | (refine ⟨?_, ?_⟩ <;> omega) | exact hw _ _ | exact nrm_R _) (by first | omega | (refine ⟨?_, ?_⟩ <;> omega) | exact hw _ _ | exact nrm_R _) ?_
      refine j_istore C dX2_weigh_33 (Nat.le_of_ble_eq_true rfl) ?_
      dsimp only [List.set]
      refine j_iload C dX2_weigh_35 rfl ?_
      refine j_istore C dX2_weigh_37 (Nat.le_of_ble_eq_true rfl) ?_
      dsimp only [List.set]
      refine inn a ha1 (by omega) (fun f l4 l5 l6 hK hf => ?_) _ _ f rfl (Int.le_refl _) (by omega) hK (fun a' b' q1 q2 q4 q3 => hI a' b' q1 q2 q4 (by omega))
      refine j_iinc C dX2_weigh_73 rfl ?_
      dsimp only [List.set]
      refine j_goto C (tgt := 3) dX2_weigh_76 (by decide) ?_
      exact ih _ (by omega) (a + 1) f _ _ _ rfl (by omega) (by omega) hK (fun a' b' q1 q2 q4 q3 => hf a' b' q1 q2 q4 (by omega))
  refine j_bipush C dX2_weigh_0 (by decide +kernel) ?_
  refine j_istore_n C dX2_weigh_2 (Nat.le_of_ble_eq_true rfl) ?_
  dsimp only [List.set]
  refine j_cast (lp _ (-10) (g 11) none none none rfl (by omega) (by omega) (fun j _ => rfl) (fun a' b' q1 q2 q4 q3 => by omega)) rfl rfl ?_
  rw [row_id]
