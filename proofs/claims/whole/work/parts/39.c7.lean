set_option maxHeartbeats 4000000 in
set_option maxRecDepth 100000 in
theorem ct_X3_weigh {p : Int} {g : AG} (h : LX g ∧ KX g ∧ 0 ≤ p ∧ p < g 8 2 ∧ ∀ j : Nat, p < j → (j : Int) ≤ g 8 2 → 0 ≤ g 16 j ∧ g 16 j ≤ 1000 * (g 8 2 - j)) : MetV yX3_weigh wsX3_weigh rmX3_weigh ShW [.inr 12, .inl p] g (fun g' => ∃ m ch, cutR (g 8 2) (g 12 4).toNat (g 13) (g 14) (g 15) (szX g) (g 16) p.toNat m ch ∧ 0 ≤ m ∧ m ≤ 1000 * (g 8 2 - p) ∧ (ch = -6 ∨ (0 ≤ ch ∧ ch < g 12 4)) ∧ g' = aset (aset g 16 p.toNat m) 17 p.toNat ch) := by
  refine metV_of (cc := cX3_weigh) (nL := 6) (by decide +kernel) rfl (Nat.le_of_ble_eq_true rfl) (fun q J C => ?_)
  show J q ShW 0 0 0 [some (.inr 12), some (.inl p), none, none, none, none] [] g
  refine j_wf C (fun hw => ?_)
  obtain ⟨hL, hK, h1, h2, hA⟩ := h
  have hn := hL.1
  have hc := hK.1
  have ep : ((p.toNat : Nat) : Int) = p := by omega
  have hA1 := hA (p + 1).toNat (by omega) (by omega)
  have e1 : (p + 1).toNat = p.toNat + 1 := by omega
  have lp : ∀ k : Nat, ∀ (i m ch : Int) (l5 : Option AV), (g 12 4 - i).toNat = k → 0 ≤ i → i ≤ g 12 4 → 0 ≤ m → m ≤ 1000 * (g 8 2 - p) → (ch = -6 ∨ (0 ≤ ch ∧ ch < g 12 4)) → cutD 0 i.toNat (fun k => lieP (g 13 k) (g 15 k) (g 8 2) (szX g) ((p.toNat : Nat) : Int)) (fun k => g 14 k + g 16 (((p.toNat : Nat) : Int) + g 13 k).toNat) (g 16 (p.toNat + 1)) m ch → J q ShW 0 0 15 [some (.inr 12), some (.inl p), some (.inl m), some (.inl ch), some (.inl i), l5] [] g := by
    refine byN _ (fun k ih i m ch l5 hn2 h0 h9 hm0 hm1 hch hD => ?_)
    have hW := hK.2.1 i.toNat
    have hP := hK.2.2.1 i.toNat
    refine j_iload C dX3_weigh_15 rfl ?_
    refine j_aload_n C dX3_weigh_17 rfl ?_
    refine j_getI C fX3_weigh_31 rfl rfl dX3_weigh_18 ?_
    refine j_icmp_ge C (tgt := 88) dX3_weigh_21 (by decide) (by first | omega | (refine ⟨?_, ?_⟩ <;> omega) | exact hw _ _ | exact nrm_R _) (by first | omega | (refine ⟨?_, ?_⟩ <;> omega) | exact hw _ _ | exact nrm_R _) (fun c_21 => ?_) (fun c_21 => ?_)
    · refine j_aload_n C dX3_weigh_88 rfl ?_
      refine j_getR C fX3_weigh_21 rfl rfl dX3_weigh_89 ?_
      refine j_iload_n C dX3_weigh_92 rfl ?_
      refine j_iload_n C dX3_weigh_93 rfl ?_
      refine j_iastore C rfl (by decide) dX3_weigh_94 (by first | omega | (refine ⟨?_, ?_⟩ <;> omega) | exact hw _ _ | exact nrm_R _) (by first | omega | (refine ⟨?_, ?_⟩ <;> omega) | exact hw _ _ | exact nrm_R _) (by first | omega | (refine ⟨?_, ?_⟩ <;> omega) | exact hw _ _ | exact nrm_R _) ?_
      refine j_aload_n C dX3_weigh_95 rfl ?_
      refine j_getR C fX3_weigh_24 rfl rfl dX3_weigh_96 ?_
      refine j_iload_n C dX3_weigh_99 rfl ?_
      refine j_iload_n C dX3_weigh_100 rfl ?_
      refine j_iastore C rfl (by decide) dX3_weigh_101 (by first | omega | (refine ⟨?_, ?_⟩ <;> omega) | exact hw _ _ | exact nrm_R _) (by first | omega | (refine ⟨?_, ?_⟩ <;> omega) | exact hw _ _ | exact nrm_R _) (by first | omega | (refine ⟨?_, ?_⟩ <;> omega) | exact hw _ _ | exact nrm_R _) ?_
      refine j_vretV C dX3_weigh_102 (fun hw9 => ?_)
      refine ⟨m, ch, ?_, hm0, hm1, hch, rfl⟩
      rw [show (g 12 4).toNat = i.toNat by omega]
      exact hD
    · refine j_aload_n C dX3_weigh_24 rfl ?_
      refine j_iload C dX3_weigh_25 rfl ?_
      refine j_iload_n C dX3_weigh_27 rfl ?_
      refine j_callVi2 C vX3_weigh_52 rfl rfl (Nat.le_of_ble_eq_true rfl) ⟨Nat.zero_le _, Nat.zero_le _⟩ dX3_weigh_28 (ct_X3_lies ⟨hL, hK, by omega, by omega, by omega, by omega⟩) (fun x_28 g_28 hk_28 => ?_)
      obtain ⟨e_28, hb_28, hi_28⟩ := hk_28
      have e_28 := e_28.symm
      subst e_28
      refine j_if_eq C (tgt := 82) dX3_weigh_31 (by decide) (by first | omega | (refine ⟨?_, ?_⟩ <;> omega) | exact hw _ _ | exact nrm_R _) (fun c_31 => ?_) (fun c_31 => ?_)
      · refine j_iinc C dX3_weigh_82 rfl ?_
        dsimp only [List.set]
        refine j_goto C (tgt := 15) dX3_weigh_85 (by decide) ?_
        first
        | (refine ih _ (by omega) (i + 1) _ _ _ rfl (by omega) (by omega) (by omega) (by omega) (by omega) ?_
           rw [show (i + 1).toNat = i.toNat + 1 by omega]
           obtain ⟨d1, d2, d3⟩ := hD
           have hnl : ¬ lieP (g 13 i.toNat) (g 15 i.toNat) (g 8 2) (szX g) ((p.toNat : Nat) : Int) := fun z => by rw [ep] at z; have := hi_28.mpr z; omega
           refine ⟨d1, fun j q1 q2 q3 => ?_, ?_⟩
           · by_cases e : j = i.toNat
             · subst e; exact absurd q3 hnl
             · exact d2 j q1 (by omega) q3
           · rcases d3 with ⟨f1, f2, f3⟩ | ⟨c0, f1, f2, f3, f4, f5, f6⟩
             · refine Or.inl ⟨f1, f2, fun j q1 q2 q3 => ?_⟩
               by_cases e : j = i.toNat
               · subst e; exact absurd q3 hnl
               · exact f3 j q1 (by omega) q3
             · exact Or.inr ⟨c0, f1, f2, by omega, f4, f5, f6⟩)
        | (refine ih _ (by omega) (i + 1) _ _ _ rfl (by omega) (by omega) (by omega) (by omega) (by omega) ?_
           rw [show (i + 1).toNat = i.toNat + 1 by omega]
           obtain ⟨d1, d2, d3⟩ := hD
           have ecd : g 14 i.toNat + g 16 (((p.toNat : Nat) : Int) + g 13 i.toNat).toNat = g 14 i.toNat + g 16 (p + g 13 i.toNat).toNat := by rw [ep]
           refine ⟨by omega, fun j q1 q2 q3 => ?_, Or.inr ⟨i.toNat, by omega, by omega, by omega, hli, ecd, fun j q1 q2 q3 => ?_⟩⟩
           · by_cases e : j = i.toNat
             · subst e; exact Int.le_of_eq ecd
             · have := d2 j q1 (by omega) q3
               dsimp only at this ⊢
               omega
           · have := d2 j q1 (by omega) q3
             rcases d3 with ⟨f1, f2, f3⟩ | ⟨c0, f1, f2, f3, f4, f5, f6⟩
             · have := f3 j q1 (by omega) q3
               dsimp only at this ⊢
               omega
             · dsimp only at this ⊢
               omega)
        | (refine ih _ (by omega) (i + 1) _ _ _ rfl (by omega) (by omega) (by omega) (by omega) (by omega) ?_
           rw [show (i + 1).toNat = i.toNat + 1 by omega]
           obtain ⟨d1, d2, d3⟩ := hD
           have ecd : g 14 i.toNat + g 16 (((p.toNat : Nat) : Int) + g 13 i.toNat).toNat = g 14 i.toNat + g 16 (p + g 13 i.toNat).toNat := by rw [ep]
           refine ⟨d1, fun j q1 q2 q3 => ?_, ?_⟩
           · by_cases e : j = i.toNat
             · subst e
               dsimp only
               omega
             · exact d2 j q1 (by omega) q3
           · rcases d3 with ⟨f1, f2, f3⟩ | ⟨c0, f1, f2, f3, f4, f5, f6⟩
             · refine Or.inl ⟨f1, f2, fun j q1 q2 q3 => ?_⟩
               by_cases e : j = i.toNat
               · subst e
                 dsimp only
                 omega
               · exact f3 j q1 (by omega) q3
             · exact Or.inr ⟨c0, f1, f2, by omega, f4, f5, f6⟩)
      · have hli : lieP (g 13 i.toNat) (g 15 i.toNat) (g 8 2) (szX g) ((p.toNat : Nat) : Int) := by rw [ep]; exact hi_28.mp (by omega)
        have hw1 := hK.2.2.2.2 i.toNat (by omega)
        have hen := hli.1
        have hA2 := hA (p + g 13 i.toNat).toNat (by omega) (by omega)
        refine j_aload_n C dX3_weigh_34 rfl ?_
        refine j_getR C fX3_weigh_15 rfl rfl dX3_weigh_35 ?_
        refine j_iload C dX3_weigh_38 rfl ?_
        refine j_iaload C rfl (by decide) dX3_weigh_40 (by first | omega | (refine ⟨?_, ?_⟩ <;> omega) | exact hw _ _ | exact nrm_R _) (by first | omega | (refine ⟨?_, ?_⟩ <;> omega) | exact hw _ _ | exact nrm_R _) ?_
        refine j_aload_n C dX3_weigh_41 rfl ?_
        refine j_getR C fX3_weigh_21 rfl rfl dX3_weigh_42 ?_
        refine j_iload_n C dX3_weigh_45 rfl ?_
        refine j_aload_n C dX3_weigh_46 rfl ?_
        refine j_getR C fX3_weigh_9 rfl rfl dX3_weigh_47 ?_
        refine j_iload C dX3_weigh_50 rfl ?_
        refine j_iaload C rfl (by decide) dX3_weigh_52 (by first | omega | (refine ⟨?_, ?_⟩ <;> omega) | exact hw _ _ | exact nrm_R _) (by first | omega | (refine ⟨?_, ?_⟩ <;> omega) | exact hw _ _ | exact nrm_R _) ?_
        refine j_iadd C dX3_weigh_53 ?_
        refine j_iaload C rfl (by decide) dX3_weigh_54 (by first | omega | (refine ⟨?_, ?_⟩ <;> omega) | exact hw _ _ | exact nrm_R _) (by first | omega | (refine ⟨?_, ?_⟩ <;> omega) | exact hw _ _ | exact nrm_R _) ?_
        refine j_iadd C dX3_weigh_55 ?_
        refine j_istore C dX3_weigh_56 (Nat.le_of_ble_eq_true rfl) ?_
        dsimp only [List.set]
        refine j_iload C dX3_weigh_58 rfl ?_
        refine j_iload_n C dX3_weigh_60 rfl ?_
        refine j_icmp_gt C (tgt := 76) dX3_weigh_61 (by decide) (by first | omega | (refine ⟨?_, ?_⟩ <;> omega) | exact hw _ _ | exact nrm_R _) (by first | omega | (refine ⟨?_, ?_⟩ <;> omega) | exact hw _ _ | exact nrm_R _) (fun c_61 => ?_) (fun c_61 => ?_)
        · refine j_iload C dX3_weigh_76 rfl ?_
          refine j_istore_n C dX3_weigh_78 (Nat.le_of_ble_eq_true rfl) ?_
          dsimp only [List.set]
          refine j_iload C dX3_weigh_79 rfl ?_
          refine j_istore_n C dX3_weigh_81 (Nat.le_of_ble_eq_true rfl) ?_
          dsimp only [List.set]
          refine j_iinc C dX3_weigh_82 rfl ?_
          dsimp only [List.set]
          refine j_goto C (tgt := 15) dX3_weigh_85 (by decide) ?_
          first
          | (refine ih _ (by omega) (i + 1) _ _ _ rfl (by omega) (by omega) (by omega) (by omega) (by omega) ?_
             rw [show (i + 1).toNat = i.toNat + 1 by omega]
             obtain ⟨d1, d2, d3⟩ := hD
             have hnl : ¬ lieP (g 13 i.toNat) (g 15 i.toNat) (g 8 2) (szX g) ((p.toNat : Nat) : Int) := fun z => by rw [ep] at z; have := hi_28.mpr z; omega
             refine ⟨d1, fun j q1 q2 q3 => ?_, ?_⟩
             · by_cases e : j = i.toNat
               · subst e; exact absurd q3 hnl
               · exact d2 j q1 (by omega) q3
             · rcases d3 with ⟨f1, f2, f3⟩ | ⟨c0, f1, f2, f3, f4, f5, f6⟩
               · refine Or.inl ⟨f1, f2, fun j q1 q2 q3 => ?_⟩
                 by_cases e : j = i.toNat
                 · subst e; exact absurd q3 hnl
                 · exact f3 j q1 (by omega) q3
               · exact Or.inr ⟨c0, f1, f2, by omega, f4, f5, f6⟩)
          | (refine ih _ (by omega) (i + 1) _ _ _ rfl (by omega) (by omega) (by omega) (by omega) (by omega) ?_
             rw [show (i + 1).toNat = i.toNat + 1 by omega]
             obtain ⟨d1, d2, d3⟩ := hD
             have ecd : g 14 i.toNat + g 16 (((p.toNat : Nat) : Int) + g 13 i.toNat).toNat = g 14 i.toNat + g 16 (p + g 13 i.toNat).toNat := by rw [ep]
             refine ⟨by omega, fun j q1 q2 q3 => ?_, Or.inr ⟨i.toNat, by omega, by omega, by omega, hli, ecd, fun j q1 q2 q3 => ?_⟩⟩
             · by_cases e : j = i.toNat
               · subst e; exact Int.le_of_eq ecd
               · have := d2 j q1 (by omega) q3
                 dsimp only at this ⊢
                 omega
             · have := d2 j q1 (by omega) q3
               rcases d3 with ⟨f1, f2, f3⟩ | ⟨c0, f1, f2, f3, f4, f5, f6⟩
               · have := f3 j q1 (by omega) q3
                 dsimp only at this ⊢
                 omega
               · dsimp only at this ⊢
                 omega)
          | (refine ih _ (by omega) (i + 1) _ _ _ rfl (by omega) (by omega) (by omega) (by omega) (by omega) ?_
             rw [show (i + 1).toNat = i.toNat + 1 by omega]
             obtain ⟨d1, d2, d3⟩ := hD
             have ecd : g 14 i.toNat + g 16 (((p.toNat : Nat) : Int) + g 13 i.toNat).toNat = g 14 i.toNat + g 16 (p + g 13 i.toNat).toNat := by rw [ep]
             refine ⟨d1, fun j q1 q2 q3 => ?_, ?_⟩
             · by_cases e : j = i.toNat
               · subst e
                 dsimp only
                 omega
               · exact d2 j q1 (by omega) q3
             · rcases d3 with ⟨f1, f2, f3⟩ | ⟨c0, f1, f2, f3, f4, f5, f6⟩
               · refine Or.inl ⟨f1, f2, fun j q1 q2 q3 => ?_⟩
                 by_cases e : j = i.toNat
                 · subst e
                   dsimp only
                   omega
                 · exact f3 j q1 (by omega) q3
               · exact Or.inr ⟨c0, f1, f2, by omega, f4, f5, f6⟩)
        · refine j_iload C dX3_weigh_64 rfl ?_
          refine j_iload_n C dX3_weigh_66 rfl ?_
          refine j_icmp_ne C (tgt := 82) dX3_weigh_67 (by decide) (by first | omega | (refine ⟨?_, ?_⟩ <;> omega) | exact hw _ _ | exact nrm_R _) (by first | omega | (refine ⟨?_, ?_⟩ <;> omega) | exact hw _ _ | exact nrm_R _) (fun c_67 => ?_) (fun c_67 => ?_)
          · refine j_iinc C dX3_weigh_82 rfl ?_
            dsimp only [List.set]
            refine j_goto C (tgt := 15) dX3_weigh_85 (by decide) ?_
            first
            | (refine ih _ (by omega) (i + 1) _ _ _ rfl (by omega) (by omega) (by omega) (by omega) (by omega) ?_
               rw [show (i + 1).toNat = i.toNat + 1 by omega]
               obtain ⟨d1, d2, d3⟩ := hD
               have hnl : ¬ lieP (g 13 i.toNat) (g 15 i.toNat) (g 8 2) (szX g) ((p.toNat : Nat) : Int) := fun z => by rw [ep] at z; have := hi_28.mpr z; omega
               refine ⟨d1, fun j q1 q2 q3 => ?_, ?_⟩
               · by_cases e : j = i.toNat
                 · subst e; exact absurd q3 hnl
                 · exact d2 j q1 (by omega) q3
               · rcases d3 with ⟨f1, f2, f3⟩ | ⟨c0, f1, f2, f3, f4, f5, f6⟩
                 · refine Or.inl ⟨f1, f2, fun j q1 q2 q3 => ?_⟩
                   by_cases e : j = i.toNat
                   · subst e; exact absurd q3 hnl
                   · exact f3 j q1 (by omega) q3
                 · exact Or.inr ⟨c0, f1, f2, by omega, f4, f5, f6⟩)
            | (refine ih _ (by omega) (i + 1) _ _ _ rfl (by omega) (by omega) (by omega) (by omega) (by omega) ?_
               rw [show (i + 1).toNat = i.toNat + 1 by omega]
               obtain ⟨d1, d2, d3⟩ := hD
               have ecd : g 14 i.toNat + g 16 (((p.toNat : Nat) : Int) + g 13 i.toNat).toNat = g 14 i.toNat + g 16 (p + g 13 i.toNat).toNat := by rw [ep]
               refine ⟨by omega, fun j q1 q2 q3 => ?_, Or.inr ⟨i.toNat, by omega, by omega, by omega, hli, ecd, fun j q1 q2 q3 => ?_⟩⟩
               · by_cases e : j = i.toNat
                 · subst e; exact Int.le_of_eq ecd
                 · have := d2 j q1 (by omega) q3
                   dsimp only at this ⊢
                   omega
               · have := d2 j q1 (by omega) q3
                 rcases d3 with ⟨f1, f2, f3⟩ | ⟨c0, f1, f2, f3, f4, f5, f6⟩
                 · have := f3 j q1 (by omega) q3
                   dsimp only at this ⊢
                   omega
                 · dsimp only at this ⊢
                   omega)
            | (refine ih _ (by omega) (i + 1) _ _ _ rfl (by omega) (by omega) (by omega) (by omega) (by omega) ?_
               rw [show (i + 1).toNat = i.toNat + 1 by omega]
               obtain ⟨d1, d2, d3⟩ := hD
               have ecd : g 14 i.toNat + g 16 (((p.toNat : Nat) : Int) + g 13 i.toNat).toNat = g 14 i.toNat + g 16 (p + g 13 i.toNat).toNat := by rw [ep]
               refine ⟨d1, fun j q1 q2 q3 => ?_, ?_⟩
               · by_cases e : j = i.toNat
                 · subst e
                   dsimp only
                   omega
                 · exact d2 j q1 (by omega) q3
               · rcases d3 with ⟨f1, f2, f3⟩ | ⟨c0, f1, f2, f3, f4, f5, f6⟩
                 · refine Or.inl ⟨f1, f2, fun j q1 q2 q3 => ?_⟩
                   by_cases e : j = i.toNat
                   · subst e
                     dsimp only
                     omega
                   · exact f3 j q1 (by omega) q3
                 · exact Or.inr ⟨c0, f1, f2, by omega, f4, f5, f6⟩)
          · refine j_iload_n C dX3_weigh_70 rfl ?_
            refine j_bipush C dX3_weigh_71 (by decide +kernel) ?_
            refine j_icmp_ne C (tgt := 82) dX3_weigh_73 (by decide) (by first | omega | (refine ⟨?_, ?_⟩ <;> omega) | exact hw _ _ | exact nrm_R _) (by first | omega | (refine ⟨?_, ?_⟩ <;> omega) | exact hw _ _ | exact nrm_R _) (fun c_73 => ?_) (fun c_73 => ?_)
            · refine j_iinc C dX3_weigh_82 rfl ?_
              dsimp only [List.set]
              refine j_goto C (tgt := 15) dX3_weigh_85 (by decide) ?_
              first
              | (refine ih _ (by omega) (i + 1) _ _ _ rfl (by omega) (by omega) (by omega) (by omega) (by omega) ?_
                 rw [show (i + 1).toNat = i.toNat + 1 by omega]
                 obtain ⟨d1, d2, d3⟩ := hD
                 have hnl : ¬ lieP (g 13 i.toNat) (g 15 i.toNat) (g 8 2) (szX g) ((p.toNat : Nat) : Int) := fun z => by rw [ep] at z; have := hi_28.mpr z; omega
                 refine ⟨d1, fun j q1 q2 q3 => ?_, ?_⟩
                 · by_cases e : j = i.toNat
                   · subst e; exact absurd q3 hnl
                   · exact d2 j q1 (by omega) q3
                 · rcases d3 with ⟨f1, f2, f3⟩ | ⟨c0, f1, f2, f3, f4, f5, f6⟩
                   · refine Or.inl ⟨f1, f2, fun j q1 q2 q3 => ?_⟩
                     by_cases e : j = i.toNat
                     · subst e; exact absurd q3 hnl
                     · exact f3 j q1 (by omega) q3
                   · exact Or.inr ⟨c0, f1, f2, by omega, f4, f5, f6⟩)
              | (refine ih _ (by omega) (i + 1) _ _ _ rfl (by omega) (by omega) (by omega) (by omega) (by omega) ?_
                 rw [show (i + 1).toNat = i.toNat + 1 by omega]
                 obtain ⟨d1, d2, d3⟩ := hD
                 have ecd : g 14 i.toNat + g 16 (((p.toNat : Nat) : Int) + g 13 i.toNat).toNat = g 14 i.toNat + g 16 (p + g 13 i.toNat).toNat := by rw [ep]
                 refine ⟨by omega, fun j q1 q2 q3 => ?_, Or.inr ⟨i.toNat, by omega, by omega, by omega, hli, ecd, fun j q1 q2 q3 => ?_⟩⟩
                 · by_cases e : j = i.toNat
                   · subst e; exact Int.le_of_eq ecd
                   · have := d2 j q1 (by omega) q3
                     dsimp only at this ⊢
                     omega
                 · have := d2 j q1 (by omega) q3
                   rcases d3 with ⟨f1, f2, f3⟩ | ⟨c0, f1, f2, f3, f4, f5, f6⟩
                   · have := f3 j q1 (by omega) q3
                     dsimp only at this ⊢
                     omega
                   · dsimp only at this ⊢
                     omega)
              | (refine ih _ (by omega) (i + 1) _ _ _ rfl (by omega) (by omega) (by omega) (by omega) (by omega) ?_
                 rw [show (i + 1).toNat = i.toNat + 1 by omega]
                 obtain ⟨d1, d2, d3⟩ := hD
                 have ecd : g 14 i.toNat + g 16 (((p.toNat : Nat) : Int) + g 13 i.toNat).toNat = g 14 i.toNat + g 16 (p + g 13 i.toNat).toNat := by rw [ep]
                 refine ⟨d1, fun j q1 q2 q3 => ?_, ?_⟩
                 · by_cases e : j = i.toNat
                   · subst e
                     dsimp only
                     omega
                   · exact d2 j q1 (by omega) q3
                 · rcases d3 with ⟨f1, f2, f3⟩ | ⟨c0, f1, f2, f3, f4, f5, f6⟩
                   · refine Or.inl ⟨f1, f2, fun j q1 q2 q3 => ?_⟩
                     by_cases e : j = i.toNat
                     · subst e
                       dsimp only
                       omega
                     · exact f3 j q1 (by omega) q3
                   · exact Or.inr ⟨c0, f1, f2, by omega, f4, f5, f6⟩)
            · refine j_iload C dX3_weigh_76 rfl ?_
              refine j_istore_n C dX3_weigh_78 (Nat.le_of_ble_eq_true rfl) ?_
              dsimp only [List.set]
              refine j_iload C dX3_weigh_79 rfl ?_
              refine j_istore_n C dX3_weigh_81 (Nat.le_of_ble_eq_true rfl) ?_
              dsimp only [List.set]
              refine j_iinc C dX3_weigh_82 rfl ?_
              dsimp only [List.set]
              refine j_goto C (tgt := 15) dX3_weigh_85 (by decide) ?_
              first
              | (refine ih _ (by omega) (i + 1) _ _ _ rfl (by omega) (by omega) (by omega) (by omega) (by omega) ?_
                 rw [show (i + 1).toNat = i.toNat + 1 by omega]
                 obtain ⟨d1, d2, d3⟩ := hD
                 have hnl : ¬ lieP (g 13 i.toNat) (g 15 i.toNat) (g 8 2) (szX g) ((p.toNat : Nat) : Int) := fun z => by rw [ep] at z; have := hi_28.mpr z; omega
                 refine ⟨d1, fun j q1 q2 q3 => ?_, ?_⟩
                 · by_cases e : j = i.toNat
                   · subst e; exact absurd q3 hnl
                   · exact d2 j q1 (by omega) q3
                 · rcases d3 with ⟨f1, f2, f3⟩ | ⟨c0, f1, f2, f3, f4, f5, f6⟩
                   · refine Or.inl ⟨f1, f2, fun j q1 q2 q3 => ?_⟩
                     by_cases e : j = i.toNat
                     · subst e; exact absurd q3 hnl
                     · exact f3 j q1 (by omega) q3
                   · exact Or.inr ⟨c0, f1, f2, by omega, f4, f5, f6⟩)
              | (refine ih _ (by omega) (i + 1) _ _ _ rfl (by omega) (by omega) (by omega) (by omega) (by omega) ?_
                 rw [show (i + 1).toNat = i.toNat + 1 by omega]
                 obtain ⟨d1, d2, d3⟩ := hD
                 have ecd : g 14 i.toNat + g 16 (((p.toNat : Nat) : Int) + g 13 i.toNat).toNat = g 14 i.toNat + g 16 (p + g 13 i.toNat).toNat := by rw [ep]
                 refine ⟨by omega, fun j q1 q2 q3 => ?_, Or.inr ⟨i.toNat, by omega, by omega, by omega, hli, ecd, fun j q1 q2 q3 => ?_⟩⟩
                 · by_cases e : j = i.toNat
                   · subst e; exact Int.le_of_eq ecd
                   · have := d2 j q1 (by omega) q3
                     dsimp only at this ⊢
                     omega
                 · have := d2 j q1 (by omega) q3
                   rcases d3 with ⟨f1, f2, f3⟩ | ⟨c0, f1, f2, f3, f4, f5, f6⟩
                   · have := f3 j q1 (by omega) q3
                     dsimp only at this ⊢
                     omega
                   · dsimp only at this ⊢
                     omega)
              | (refine ih _ (by omega) (i + 1) _ _ _ rfl (by omega) (by omega) (by omega) (by omega) (by omega) ?_
                 rw [show (i + 1).toNat = i.toNat + 1 by omega]
                 obtain ⟨d1, d2, d3⟩ := hD
                 have ecd : g 14 i.toNat + g 16 (((p.toNat : Nat) : Int) + g 13 i.toNat).toNat = g 14 i.toNat + g 16 (p + g 13 i.toNat).toNat := by rw [ep]
                 refine ⟨d1, fun j q1 q2 q3 => ?_, ?_⟩
                 · by_cases e : j = i.toNat
                   · subst e
                     dsimp only
                     omega
                   · exact d2 j q1 (by omega) q3
                 · rcases d3 with ⟨f1, f2, f3⟩ | ⟨c0, f1, f2, f3, f4, f5, f6⟩
                   · refine Or.inl ⟨f1, f2, fun j q1 q2 q3 => ?_⟩
                     by_cases e : j = i.toNat
                     · subst e
                       dsimp only
                       omega
                     · exact f3 j q1 (by omega) q3
                   · exact Or.inr ⟨c0, f1, f2, by omega, f4, f5, f6⟩)
  refine j_aload_n C dX3_weigh_0 rfl ?_
  refine j_getR C fX3_weigh_21 rfl rfl dX3_weigh_1 ?_
  refine j_iload_n C dX3_weigh_4 rfl ?_
  refine j_iconst C dX3_weigh_5 ?_
  refine j_iadd C dX3_weigh_6 ?_
  refine j_iaload C rfl (by decide) dX3_weigh_7 (by first | omega | (refine ⟨?_, ?_⟩ <;> omega) | exact hw _ _ | exact nrm_R _) (by first | omega | (refine ⟨?_, ?_⟩ <;> omega) | exact hw _ _ | exact nrm_R _) ?_
  rw [e1] at hA1 ⊢
  refine j_istore_n C dX3_weigh_8 (Nat.le_of_ble_eq_true rfl) ?_
  dsimp only [List.set]
  refine j_bipush C dX3_weigh_9 (by decide +kernel) ?_
  refine j_istore_n C dX3_weigh_11 (Nat.le_of_ble_eq_true rfl) ?_
  dsimp only [List.set]
  refine j_iconst C dX3_weigh_12 ?_
  refine j_istore C dX3_weigh_13 (Nat.le_of_ble_eq_true rfl) ?_
  dsimp only [List.set]
  exact lp _ 0 _ _ _ rfl (by omega) (by omega) (by omega) (by omega) (Or.inl rfl) ⟨Int.le_refl _, fun j q1 q2 q3 => absurd q2 (by simp), Or.inl ⟨rfl, rfl, fun j q1 q2 q3 => absurd q2 (by simp)⟩⟩
set_option maxHeartbeats 4000000 in
set_option maxRecDepth 100000 in
theorem ct_X3_dropCovered {n : Int} {g : AG} (h : 0 ≤ n ∧ n ≤ 24 ∧ (∀ j : Nat, (j : Int) < n → g 17 j = -6 ∨ (0 ≤ g 17 j ∧ g 17 j < 4)) ∧ ∀ j, 0 ≤ g 13 j ∧ g 13 j ≤ 24) : MetV yX3_dropCovered wsX3_dropCovered rmX3_dropCovered ShW [.inr 12, .inl n] g (fun g' => g' = row g 17 (drU (g 17) (g 13) n.toNat)) := by
  refine metV_of (cc := cX3_dropCovered) (nL := 4) (by decide +kernel) rfl (Nat.le_of_ble_eq_true rfl) (fun q J C => ?_)
  show J q ShW 0 0 0 [some (.inr 12), some (.inl n), none, none] [] g
  refine j_wf C (fun hw => ?_)
  obtain ⟨h1, h2, hB, hW⟩ := h
  have lp : ∀ k : Nat, ∀ (i : Int), (n - i).toNat = k → 0 ≤ i → i ≤ n → J q ShW 0 0 4 [some (.inr 12), some (.inl n), some (.inl (frU (g 17) (g 13) i.toNat)), some (.inl i)] [] (row g 17 (drU (g 17) (g 13) i.toNat)) := by
    refine byN _ (fun k ih i hn2 h0 h9 => ?_)
    have hf := frU_b (B := g 17) hW i.toNat (by omega)
    have ei : ((i.toNat : Nat) : Int) = i := by omega
    have eb : (row g 17 (drU (g 17) (g 13) i.toNat)) 17 i.toNat = g 17 i.toNat := by rw [row_s, drU_at]
    have ew : (row g 17 (drU (g 17) (g 13) i.toNat)) 13 = g 13 := row_n _ _ (by decide)
    have hb := hw 17 i.toNat
    refine j_iload_n C dX3_dropCovered_4 rfl ?_
    refine j_iload_n C dX3_dropCovered_5 rfl ?_
    refine j_icmp_ge C (tgt := 56) dX3_dropCovered_6 (by decide) (by first | omega | (refine ⟨?_, ?_⟩ <;> omega) | exact hw _ _ | (rw [eb]; exact hw _ _)) (by first | omega | (refine ⟨?_, ?_⟩ <;> omega) | exact hw _ _ | (rw [eb]; exact hw _ _)) (fun c_6 => ?_) (fun c_6 => ?_)
    · refine j_vretV C dX3_dropCovered_56 (fun hw9 => ?_)
      show _ = _
      rw [show n.toNat = i.toNat by omega]
    · refine j_iload_n C dX3_dropCovered_9 rfl ?_
      refine j_iload_n C dX3_dropCovered_10 rfl ?_
      refine j_icmp_ge C (tgt := 25) dX3_dropCovered_11 (by decide) (by first | omega | (refine ⟨?_, ?_⟩ <;> omega) | exact hw _ _ | (rw [eb]; exact hw _ _)) (by first | omega | (refine ⟨?_, ?_⟩ <;> omega) | exact hw _ _ | (rw [eb]; exact hw _ _)) (fun c_11 => ?_) (fun c_11 => ?_)
      · refine j_aload_n C dX3_dropCovered_25 rfl ?_
        refine j_getR C fX3_dropCovered_24 rfl rfl dX3_dropCovered_26 ?_
        refine j_iload_n C dX3_dropCovered_29 rfl ?_
        refine j_iaload C rfl (by decide) dX3_dropCovered_30 (by first | omega | (refine ⟨?_, ?_⟩ <;> omega) | exact hw _ _ | (rw [eb]; exact hw _ _)) (by first | omega | (refine ⟨?_, ?_⟩ <;> omega) | exact hw _ _ | (rw [eb]; exact hw _ _)) ?_
        rw [eb]
        refine j_bipush C dX3_dropCovered_31 (by decide +kernel) ?_
        refine j_icmp_eq C (tgt := 50) dX3_dropCovered_33 (by decide) (by first | omega | (refine ⟨?_, ?_⟩ <;> omega) | exact hw _ _ | (rw [eb]; exact hw _ _)) (by first | omega | (refine ⟨?_, ?_⟩ <;> omega) | exact hw _ _ | (rw [eb]; exact hw _ _)) (fun c_33 => ?_) (fun c_33 => ?_)
        · refine j_iinc C dX3_dropCovered_50 rfl ?_
          dsimp only [List.set]
          refine j_goto C (tgt := 4) dX3_dropCovered_53 (by decide) ?_
          refine j_cast (ih _ (by omega) (i + 1) rfl (by omega) (by omega)) ?_ rfl ?_
          · rw [show (i + 1).toNat = i.toNat + 1 by omega, frU]
            first
            | (rw [if_pos (by omega)]; done)
            | (rw [if_neg (by omega), if_pos (by omega)]; done)
            | (rw [if_neg (by omega), if_neg (by omega), ei]; first | rfl | (rw [ew]; done))
          · rw [show (i + 1).toNat = i.toNat + 1 by omega]
            first
            | (rw [drU_n (by omega)]; done)
            | (rw [drU_y (by omega)]
               funext k' j
               by_cases a6 : k' = 17
               · subst a6
                 simp [row, aset]
               · simp [row, aset, a6])
        · have hB2 := hB i.toNat (by omega)
          have hW2 := hW (g 17 i.toNat).toNat
          refine j_iload_n C dX3_dropCovered_36 rfl ?_
          refine j_aload_n C dX3_dropCovered_37 rfl ?_
          refine j_getR C fX3_dropCovered_9 rfl rfl dX3_dropCovered_38 ?_
          refine j_aload_n C dX3_dropCovered_41 rfl ?_
          refine j_getR C fX3_dropCovered_24 rfl rfl dX3_dropCovered_42 ?_
          refine j_iload_n C dX3_dropCovered_45 rfl ?_
          refine j_iaload C rfl (by decide) dX3_dropCovered_46 (by first | omega | (refine ⟨?_, ?_⟩ <;> omega) | exact hw _ _ | (rw [eb]; exact hw _ _)) (by first | omega | (refine ⟨?_, ?_⟩ <;> omega) | exact hw _ _ | (rw [eb]; exact hw _ _)) ?_
          rw [eb]
          refine j_iaload C rfl (by decide) dX3_dropCovered_47 (by first | omega | (refine ⟨?_, ?_⟩ <;> omega) | exact hw _ _ | (rw [eb]; exact hw _ _)) (by first | omega | (refine ⟨?_, ?_⟩ <;> omega) | exact hw _ _ | (rw [eb]; exact hw _ _)) ?_
          refine j_iadd C dX3_dropCovered_48 ?_
          refine j_istore_n C dX3_dropCovered_49 (Nat.le_of_ble_eq_true rfl) ?_
          dsimp only [List.set]
          refine j_iinc C dX3_dropCovered_50 rfl ?_
          dsimp only [List.set]
          refine j_goto C (tgt := 4) dX3_dropCovered_53 (by decide) ?_
          refine j_cast (ih _ (by omega) (i + 1) rfl (by omega) (by omega)) ?_ rfl ?_
          · rw [show (i + 1).toNat = i.toNat + 1 by omega, frU]
            first
            | (rw [if_pos (by omega)]; done)
            | (rw [if_neg (by omega), if_pos (by omega)]; done)
            | (rw [if_neg (by omega), if_neg (by omega), ei]; first | rfl | (rw [ew]; done))
          · rw [show (i + 1).toNat = i.toNat + 1 by omega]
            first
            | (rw [drU_n (by omega)]; done)
            | (rw [drU_y (by omega)]
               funext k' j
               by_cases a6 : k' = 17
               · subst a6
                 simp [row, aset]
               · simp [row, aset, a6])
      · refine j_aload_n C dX3_dropCovered_14 rfl ?_
        refine j_getR C fX3_dropCovered_24 rfl rfl dX3_dropCovered_15 ?_
        refine j_iload_n C dX3_dropCovered_18 rfl ?_
        refine j_bipush C dX3_dropCovered_19 (by decide +kernel) ?_
        refine j_iastore C rfl (by decide) dX3_dropCovered_21 (by first | omega | (refine ⟨?_, ?_⟩ <;> omega) | exact hw _ _ | (rw [eb]; exact hw _ _)) (by first | omega | (refine ⟨?_, ?_⟩ <;> omega) | exact hw _ _ | (rw [eb]; exact hw _ _)) (by first | omega | (refine ⟨?_, ?_⟩ <;> omega) | exact hw _ _ | (rw [eb]; exact hw _ _)) ?_
        refine j_goto C (tgt := 50) dX3_dropCovered_22 (by decide) ?_
        refine j_iinc C dX3_dropCovered_50 rfl ?_
        dsimp only [List.set]
        refine j_goto C (tgt := 4) dX3_dropCovered_53 (by decide) ?_
        refine j_cast (ih _ (by omega) (i + 1) rfl (by omega) (by omega)) ?_ rfl ?_
        · rw [show (i + 1).toNat = i.toNat + 1 by omega, frU]
          first
          | (rw [if_pos (by omega)]; done)
          | (rw [if_neg (by omega), if_pos (by omega)]; done)
          | (rw [if_neg (by omega), if_neg (by omega), ei]; first | rfl | (rw [ew]; done))
        · rw [show (i + 1).toNat = i.toNat + 1 by omega]
          first
          | (rw [drU_n (by omega)]; done)
          | (rw [drU_y (by omega)]
             funext k' j
             by_cases a6 : k' = 17
             · subst a6
               simp [row, aset]
             · simp [row, aset, a6])
  refine j_iconst C dX3_dropCovered_0 ?_
  refine j_istore_n C dX3_dropCovered_1 (Nat.le_of_ble_eq_true rfl) ?_
  dsimp only [List.set]
  refine j_iconst C dX3_dropCovered_2 ?_
  refine j_istore_n C dX3_dropCovered_3 (Nat.le_of_ble_eq_true rfl) ?_
  dsimp only [List.set]
  refine j_cast (lp _ 0 rfl (by omega) (by omega)) rfl rfl ?_
  rw [show (0 : Int).toNat = 0 from rfl, drU_0, row_id]
