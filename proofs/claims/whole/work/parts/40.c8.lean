/-- rows of the cut from behind a place on -/
def cutF (n : Int) (c : Nat) (Wd Pr Bo : Nat → Int) (sz : Int → Int) (i : Int) (A B : Nat → Int) : Prop := A n.toNat = 0 ∧ (∀ j : Nat, i < j → (j : Int) ≤ n → 0 ≤ A j ∧ A j ≤ 1000 * (n - j)) ∧ ∀ j : Nat, i < j → (j : Int) < n → cutR n c Wd Pr Bo sz A j (A j) (B j) ∧ (B j = -6 ∨ (0 ≤ B j ∧ B j < c))
theorem cutR_up {n : Int} {c : Nat} {Wd Pr Bo : Nat → Int} {sz : Int → Int} {i p : Nat} {A : Nat → Int} {m m' ch' : Int} (hW : ∀ j, j < c → 1 ≤ Wd j) (hp : i ≤ p) (hr : cutR n c Wd Pr Bo sz A p m' ch') : cutR n c Wd Pr Bo sz (fun j => if j = i then m else A j) p m' ch' := by
  unfold cutR at hr ⊢
  dsimp only
  rw [if_neg (by omega)]
  exact cutD_cong (fun j _ h2 _ => by have := hW j h2; rw [if_neg (by omega)]) hr
theorem cutF_s {n : Int} {c : Nat} {Wd Pr Bo : Nat → Int} {sz : Int → Int} {i : Int} {A B : Nat → Int} {m ch : Int} (hW : ∀ j, j < c → 1 ≤ Wd j) (h0 : 0 ≤ i) (hi : i < n) (h : cutF n c Wd Pr Bo sz i A B) (hr : cutR n c Wd Pr Bo sz A i.toNat m ch) (hm : 0 ≤ m ∧ m ≤ 1000 * (n - i)) (hch : ch = -6 ∨ (0 ≤ ch ∧ ch < c)) : cutF n c Wd Pr Bo sz (i - 1) (fun j => if j = i.toNat then m else A j) (fun j => if j = i.toNat then ch else B j) := by
  obtain ⟨a1, a2, a3⟩ := h
  refine ⟨?_, fun j q1 q2 => ?_, fun j q1 q2 => ?_⟩
  · dsimp only
    rw [if_neg (by omega)]
    exact a1
  · dsimp only
    by_cases e : j = i.toNat
    · rw [if_pos e]
      omega
    · rw [if_neg e]
      exact a2 j (by omega) q2
  · dsimp only
    by_cases e : j = i.toNat
    · rw [if_pos e, if_pos e]
      subst e
      exact ⟨cutR_up hW (Nat.le_refl _) hr, hch⟩
    · rw [if_neg e, if_neg e]
      have r := a3 j (by omega) q2
      exact ⟨cutR_up hW (by omega) r.1, r.2⟩
theorem cutF_T {n : Int} {c : Nat} {Wd Pr Bo : Nat → Int} {sz : Int → Int} {A B : Nat → Int} {i : Int} (hi : i < 0) (h : cutF n c Wd Pr Bo sz i A B) : cutT n c Wd Pr Bo sz A B := ⟨h.1, fun q hq => (h.2.2 q (by omega) hq).1⟩
set_option maxHeartbeats 4000000 in
set_option maxRecDepth 100000 in
theorem ct_X3_plan {g : AG} (h : LX g ∧ KX g) : MetI yX3_plan wsX3_plan rmX3_plan ShW [.inr 12] g (fun x g' => ∃ A B : Nat → Int, cutT (g 8 2) (g 12 4).toNat (g 13) (g 14) (g 15) (szX g) A B ∧ x = A 0 ∧ g' = row (row g 16 A) 17 (drU B (g 13) (g 8 2).toNat)) := by
  refine metI_of (cc := cX3_plan) (nL := 3) false (by decide +kernel) rfl (Nat.le_of_ble_eq_true rfl) (fun q J C => ?_)
  show J q ShW 0 0 0 [some (.inr 12), none, none] [] g
  refine j_wf C (fun hw => ?_)
  obtain ⟨hL, hK⟩ := h
  have hn := hL.1
  have hc := hK.1
  have hW : ∀ j, j < (g 12 4).toNat → 1 ≤ g 13 j := fun j hj => hK.2.2.2.2 j (by omega)
  have lp : ∀ k : Nat, ∀ (i : Int) (A B : Nat → Int), (i + 1).toNat = k → -1 ≤ i → i < g 8 2 → cutF (g 8 2) (g 12 4).toNat (g 13) (g 14) (g 15) (szX g) i A B → J q ShW 0 0 19 [some (.inr 12), some (.inl (g 8 2)), some (.inl i)] [] (row (row g 16 A) 17 B) := by
    refine byN _ (fun k ih i A B hn2 h0 h9 hF => ?_)
    refine j_iload_n C dX3_plan_19 rfl ?_
    refine j_if_lt C (tgt := 34) dX3_plan_20 (by decide) (by first | omega | (refine ⟨?_, ?_⟩ <;> omega) | exact hw _ _ | exact nrm_R _) (fun c_20 => ?_) (fun c_20 => ?_)
    · refine j_aload_n C dX3_plan_34 rfl ?_
      refine j_iload_n C dX3_plan_35 rfl ?_
      refine j_callVv1 C vX3_plan_49 rfl rfl (Nat.le_of_ble_eq_true rfl) ⟨Nat.zero_le _, Nat.zero_le _⟩ dX3_plan_36 (ct_X3_dropCovered ⟨by omega, by omega, fun j hj => (by have h5 : B j = -6 ∨ (0 ≤ B j ∧ B j < ((g 12 4).toNat : Int)) := (hF.2.2 j (by omega) hj).2; show B j = -6 ∨ (0 ≤ B j ∧ B j < 4); omega), hK.2.1⟩) (fun g_36 hk_36 => ?_)
      subst hk_36
      refine j_aload_n C dX3_plan_39 rfl ?_
      refine j_getR C fX3_plan_21 rfl rfl dX3_plan_40 ?_
      refine j_iconst C dX3_plan_43 ?_
      refine j_iaload C rfl (by decide) dX3_plan_44 (by first | omega | (refine ⟨?_, ?_⟩ <;> omega) | exact hw _ _ | exact nrm_R _) (by first | omega | (refine ⟨?_, ?_⟩ <;> omega) | exact hw _ _ | exact nrm_R _) ?_
      refine j_iretI C dX3_plan_45 (by intro h; cases h) (fun hw9 => ?_)
      refine ⟨A, B, cutF_T (by omega) hF, ?_, ?_⟩
      · show (row (row (row g 16 A) 17 B) 17 _) 16 0 = A 0
        rfl
      · funext k' j
        by_cases a6 : k' = 17
        · subst a6
          simp [row]
        · simp [row, a6]
    · refine j_aload_n C dX3_plan_23 rfl ?_
      refine j_iload_n C dX3_plan_24 rfl ?_
      refine j_callVv1 C vX3_plan_45 rfl rfl (Nat.le_of_ble_eq_true rfl) ⟨Nat.zero_le _, Nat.zero_le _⟩ dX3_plan_25 (ct_X3_weigh ⟨hL, hK, by omega, h9, hF.2.1⟩) (fun g_25 hk_25 => ?_)
      obtain ⟨m_25, ch_25, hr_25, hm_25, hn_25, hc_25, rfl⟩ := hk_25
      refine j_iinc C dX3_plan_28 rfl ?_
      dsimp only [List.set]
      refine j_goto C (tgt := 19) dX3_plan_31 (by decide) ?_
      refine j_cast (ih _ (by omega) (i + -1) (fun j => if j = i.toNat then m_25 else A j) (fun j => if j = i.toNat then ch_25 else B j) rfl (by omega) (by omega) ?_) rfl rfl ?_
      · exact cutF_s hW (by omega) h9 hF hr_25 ⟨hm_25, hn_25⟩ (by have h5 : ch_25 = -6 ∨ (0 ≤ ch_25 ∧ ch_25 < g 12 4) := hc_25; omega)
      · funext k' j
        by_cases a7 : k' = 17
        · subst a7
          simp [row, aset]
        · by_cases a6 : k' = 16
          · subst a6
            simp [row, aset]
          · simp [row, aset, a7, a6]
  refine j_aload_n C dX3_plan_0 rfl ?_
  refine j_getR C fX3_plan_27 rfl rfl dX3_plan_1 ?_
  refine j_callVi0 C vX3_plan_35 rfl rfl (Nat.le_of_ble_eq_true rfl) ⟨Nat.zero_le _, Nat.zero_le _⟩ dX3_plan_4 (ct_X2_places ) (fun x_4 g_4 hk_4 => ?_)
  obtain ⟨e_4, rfl⟩ := hk_4
  have e_4 := e_4.symm
  subst e_4
  refine j_istore_n C dX3_plan_7 (Nat.le_of_ble_eq_true rfl) ?_
  dsimp only [List.set]
  refine j_aload_n C dX3_plan_8 rfl ?_
  refine j_getR C fX3_plan_21 rfl rfl dX3_plan_9 ?_
  refine j_iload_n C dX3_plan_12 rfl ?_
  refine j_iconst C dX3_plan_13 ?_
  refine j_iastore C rfl (by decide) dX3_plan_14 (by first | omega | (refine ⟨?_, ?_⟩ <;> omega) | exact hw _ _ | exact nrm_R _) (by first | omega | (refine ⟨?_, ?_⟩ <;> omega) | exact hw _ _ | exact nrm_R _) (by first | omega | (refine ⟨?_, ?_⟩ <;> omega) | exact hw _ _ | exact nrm_R _) ?_
  refine j_iload_n C dX3_plan_15 rfl ?_
  refine j_iconst C dX3_plan_16 ?_
  refine j_isub C dX3_plan_17 ?_
  refine j_istore_n C dX3_plan_18 (Nat.le_of_ble_eq_true rfl) ?_
  dsimp only [List.set]
  refine j_cast (lp _ (g 8 2 - 1) (fun j => if j = (g 8 2).toNat then 0 else g 16 j) (g 17) rfl (by omega) (by omega) ⟨by simp, fun j q1 q2 => ?_, fun j q1 q2 => by omega⟩) rfl rfl ?_
  · dsimp only
    rw [if_pos (by omega)]
    omega
  · funext k' j
    by_cases a7 : k' = 17
    · subst a7
      simp [row, aset]
    · by_cases a6 : k' = 16
      · subst a6
        simp [row, aset]
      · simp [row, aset, a7, a6]
set_option maxHeartbeats 4000000 in
set_option maxRecDepth 100000 in
theorem ct_X4_cut {g : AG} (h : LX g ∧ KX g) : MetI yX4_cut wsX4_cut rmX4_cut ShW [.inr 0] g (fun x g' => ∃ A B : Nat → Int, cutT (g 8 2) (g 12 4).toNat (g 13) (g 14) (g 15) (szX g) A B ∧ x = A 0 ∧ g' = row (row g 16 A) 17 (drU B (g 13) (g 8 2).toNat)) := by
  refine metI_of (cc := cX4_cut) (nL := 1) false (by decide +kernel) rfl (Nat.le_of_ble_eq_true rfl) (fun q J C => ?_)
  show J q ShW 0 0 0 [some (.inr 0)] [] g
  refine j_wf C (fun hw => ?_)
  refine j_aload_n C dX4_cut_0 rfl ?_
  refine j_getR C fX4_cut_28 rfl rfl dX4_cut_1 ?_
  refine j_callVi0 C vX4_cut_140 rfl rfl (Nat.le_of_ble_eq_true rfl) ⟨Nat.zero_le _, Nat.zero_le _⟩ dX4_cut_4 (ct_X3_plan h) (fun x_4 g_4 hk_4 => ?_)
  obtain ⟨A_4, B_4, hT_4, hx_4, rfl⟩ := hk_4
  refine j_iretI C dX4_cut_7 (by intro h; cases h) (fun hw9 => ?_)
  exact ⟨A_4, B_4, hT_4, hx_4, rfl⟩
set_option maxHeartbeats 4000000 in
set_option maxRecDepth 100000 in
theorem ct_X4_cutAt {p : Int} {g : AG} (h : LX g ∧ KX g ∧ aR p) : MetI yX4_cutAt wsX4_cutAt rmX4_cutAt ShW [.inr 0, .inl p] g (fun x g' => (¬ (0 ≤ p ∧ p ≤ g 8 2 - 1) ∧ x = -1 ∧ g' = g) ∨ ((0 ≤ p ∧ p ≤ g 8 2 - 1) ∧ ∃ A B : Nat → Int, cutT (g 8 2) (g 12 4).toNat (g 13) (g 14) (g 15) (szX g) A B ∧ x = drU B (g 13) (g 8 2).toNat p.toNat ∧ g' = row (row g 16 A) 17 (drU B (g 13) (g 8 2).toNat))) := by
  refine metI_of (cc := cX4_cutAt) (nL := 2) false (by decide +kernel) rfl (Nat.le_of_ble_eq_true rfl) (fun q J C => ?_)
  show J q ShW 0 0 0 [some (.inr 0), some (.inl p)] [] g
  refine j_wf C (fun hw => ?_)
  obtain ⟨hL, hK, hp⟩ := h
  have hn := hL.1
  refine j_aload_n C dX4_cutAt_0 rfl ?_
  refine j_iload_n C dX4_cutAt_1 rfl ?_
  refine j_callVi1 C vX4_cutAt_55 rfl rfl (Nat.le_of_ble_eq_true rfl) ⟨Nat.zero_le _, Nat.zero_le _⟩ dX4_cutAt_2 (ct_X4_isPlace ⟨hp, by omega, by omega⟩) (fun x_2 g_2 hk_2 => ?_)
  obtain ⟨e_2, hb_2, hi_2⟩ := hk_2
  have e_2 := e_2.symm
  subst e_2
  refine j_if_ne C (tgt := 10) dX4_cutAt_5 (by decide) (by first | omega | (refine ⟨?_, ?_⟩ <;> omega) | exact hw _ _ | exact nrm_R _) (fun c_5 => ?_) (fun c_5 => ?_)
  · refine j_aload_n C dX4_cutAt_10 rfl ?_
    refine j_getR C fX4_cutAt_28 rfl rfl dX4_cutAt_11 ?_
    refine j_callVi0 C vX4_cutAt_140 rfl rfl (Nat.le_of_ble_eq_true rfl) ⟨Nat.zero_le _, Nat.zero_le _⟩ dX4_cutAt_14 (ct_X3_plan ⟨hL, hK⟩) (fun x_14 g_14 hk_14 => ?_)
    obtain ⟨A_14, B_14, hT_14, hx_14, rfl⟩ := hk_14
    refine j_pop C dX4_cutAt_17 ?_
    refine j_aload_n C dX4_cutAt_18 rfl ?_
    refine j_getR C fX4_cutAt_28 rfl rfl dX4_cutAt_19 ?_
    refine j_iload_n C dX4_cutAt_22 rfl ?_
    refine j_callVi1 C vX4_cutAt_143 rfl rfl (Nat.le_of_ble_eq_true rfl) ⟨Nat.zero_le _, Nat.zero_le _⟩ dX4_cutAt_23 (ct_X3_plannedAt (by omega)) (fun x_23 g_23 hk_23 => ?_)
    obtain ⟨e_23, rfl⟩ := hk_23
    have e_23 := e_23.symm
    subst e_23
    refine j_iretI C dX4_cutAt_26 (by intro h; cases h) (fun hw9 => ?_)
    refine Or.inr ⟨by omega, A_14, B_14, hT_14, ?_, rfl⟩
    rw [row_s]
  · refine j_iconst C dX4_cutAt_8 ?_
    refine j_iretI C dX4_cutAt_9 (by intro h; cases h) (fun hw9 => ?_)
    exact Or.inl ⟨by omega, rfl, rfl⟩
set_option maxHeartbeats 4000000 in
set_option maxRecDepth 100000 in
theorem ct_X5_layCut {g : AG} (h : LM g ∧ KM g) : MetV yX5_layCut wsX5_layCut rmX5_layCut ShW [.inr 21] g (fun g' => ∃ A B : Nat → Int, cutT (g 21 0) (g 21 14).toNat (g 30) (g 31) (g 32) (szM g) A B ∧ (∀ j : Nat, (j : Int) < g 21 0 → B j = -6 ∨ (0 ≤ B j ∧ B j < ((g 21 14).toNat : Int))) ∧ g' = row (row g 35 A) 36 B) := by
  refine metV_of (cc := cX5_layCut) (nL := 4) (by decide +kernel) rfl (Nat.le_of_ble_eq_true rfl) (fun q J C => ?_)
  show J q ShW 0 0 0 [some (.inr 21), none, none, none] [] g
  refine j_wf C (fun hw => ?_)
  obtain ⟨hL, hK⟩ := h
  have hn := hL.1
  have hc := hK.1
  have hW : ∀ j, j < (g 21 14).toNat → 1 ≤ g 30 j := fun j hj => hK.2.2.2.2 j (by omega)
  have inn : ∀ (P : Int) (A B : Nat → Int), 0 ≤ P → P < g 21 0 → (∀ j : Nat, P < j → (j : Int) ≤ g 21 0 → 0 ≤ A j ∧ A j ≤ 1000 * (g 21 0 - j)) → (∀ m ch : Int, 0 ≤ m → m ≤ 1000 * (g 21 0 - P) → (ch = -6 ∨ (0 ≤ ch ∧ ch < ((g 21 14).toNat : Int))) → cutD 0 (g 21 14).toNat (fun k => lieP (g 30 k) (g 32 k) (g 21 0) (szM g) ((P.toNat : Nat) : Int)) (fun k => g 31 k + A (((P.toNat : Nat) : Int) + g 30 k).toNat) (A (P.toNat + 1)) m ch → ∀ (l2 l3 : Option AV), J q ShW 0 0 118 [some (.inr 21), some (.inl P), l2, l3] [] (row (row g 35 (fun j => if j = P.toNat then m else A j)) 36 (fun j => if j = P.toNat then ch else B j))) → ∀ k : Nat, ∀ (i m ch : Int) (l3 : Option AV), (i + 1).toNat = k → -1 ≤ i → i < g 21 14 → 0 ≤ m → m ≤ 1000 * (g 21 0 - P) → (ch = -6 ∨ (0 ≤ ch ∧ ch < ((g 21 14).toNat : Int))) → cutD (i + 1).toNat (g 21 14).toNat (fun k => lieP (g 30 k) (g 32 k) (g 21 0) (szM g) ((P.toNat : Nat) : Int)) (fun k => g 31 k + A (((P.toNat : Nat) : Int) + g 30 k).toNat) (A (P.toNat + 1)) m ch → J q ShW 0 0 50 [some (.inr 21), some (.inl P), some (.inl i), l3] [] (row (row g 35 (fun j => if j = P.toNat then m else A j)) 36 (fun j => if j = P.toNat then ch else B j)) := by
    intro P A B hP0 hP1 hA kk
    refine byN _ (fun k ih i m ch l3 hn2 h0 h9 hm0 hm1 hch hD => ?_)
    have ep : ((P.toNat : Nat) : Int) = P := by omega
    have hW1 := hK.2.1 i.toNat
    have hP := hK.2.2.1 i.toNat
    have e35 : ∀ j, (row (row g 35 (fun j => if j = P.toNat then m else A j)) 36 (fun j => if j = P.toNat then ch else B j)) 35 j = if j = P.toNat then m else A j := fun j => rfl
    have e30 : ∀ j, (row (row g 35 (fun j => if j = P.toNat then m else A j)) 36 (fun j => if j = P.toNat then ch else B j)) 30 j = g 30 j := fun j => rfl
    have e31 : ∀ j, (row (row g 35 (fun j => if j = P.toNat then m else A j)) 36 (fun j => if j = P.toNat then ch else B j)) 31 j = g 31 j := fun j => rfl
    refine j_iload_n C dX5_layCut_50 rfl ?_
    refine j_if_lt C (tgt := 118) dX5_layCut_51 (by decide) (by first | omega | (refine ⟨?_, ?_⟩ <;> omega) | exact hw _ _ | exact nrm_R _) (fun c_51 => ?_) (fun c_51 => ?_)
    · refine kk m ch hm0 hm1 hch ?_ _ _
      rw [show (i + 1).toNat = 0 by omega] at hD
      exact hD
    · refine j_aload_n C dX5_layCut_54 rfl ?_
      refine j_iload_n C dX5_layCut_55 rfl ?_
      refine j_iload_n C dX5_layCut_56 rfl ?_
      refine j_callVi2 C vX5_layCut_127 rfl rfl (Nat.le_of_ble_eq_true rfl) ⟨Nat.zero_le _, Nat.zero_le _⟩ dX5_layCut_57 (ct_X5_lies ⟨hL, hK, by omega, by omega, by omega, by omega⟩) (fun x_57 g_57 hk_57 => ?_)
      obtain ⟨e_57, hb_57, hi_57⟩ := hk_57
      have e_57 := e_57.symm
      subst e_57
      refine j_if_eq C (tgt := 86) dX5_layCut_60 (by decide) (by first | omega | (refine ⟨?_, ?_⟩ <;> omega) | exact hw _ _ | exact nrm_R _) (fun c_60 => ?_) (fun c_60 => ?_)
      · refine j_iconst C dX5_layCut_86 ?_
        refine j_istore_n C dX5_layCut_87 (Nat.le_of_ble_eq_true rfl) ?_
        dsimp only [List.set]
        refine j_iload_n C dX5_layCut_88 rfl ?_
        refine j_aload_n C dX5_layCut_89 rfl ?_
        refine j_getR C fX5_layCut_63 rfl rfl dX5_layCut_90 ?_
        refine j_iload_n C dX5_layCut_93 rfl ?_
        refine j_iaload C rfl (by decide) dX5_layCut_94 (by first | omega | (refine ⟨?_, ?_⟩ <;> omega) | exact hw _ _ | exact nrm_R _) (by first | omega | (refine ⟨?_, ?_⟩ <;> omega) | exact hw _ _ | exact nrm_R _) ?_
        rw [e35, if_pos (by omega)]
        refine j_icmp_lt C (tgt := 112) dX5_layCut_95 (by decide) (by first | omega | (refine ⟨?_, ?_⟩ <;> omega) | exact hw _ _ | exact nrm_R _) (by first | omega | (refine ⟨?_, ?_⟩ <;> omega) | exact hw _ _ | exact nrm_R _) (fun c_95 => ?_) (fun c_95 => ?_)
        · refine j_iinc C dX5_layCut_112 rfl ?_
          dsimp only [List.set]
          refine j_goto C (tgt := 50) dX5_layCut_115 (by decide) ?_
          first
          | (exfalso; omega)
          | (refine j_cast (ih _ (by omega) (i + -1) m ch _ rfl (by omega) (by omega) (by omega) (by omega) (by omega) ?_) rfl rfl ?_
             · rw [show (i + -1 + 1).toNat = i.toNat by omega]
               rw [show (i + 1).toNat = i.toNat + 1 by omega] at hD
               obtain ⟨d1, d2, d3⟩ := hD
               have hnl : ¬ lieP (g 30 i.toNat) (g 32 i.toNat) (g 21 0) (szM g) ((P.toNat : Nat) : Int) := fun z => by rw [ep] at z; have := hi_57.mpr z; omega
               refine ⟨d1, fun j q1 q2 q3 => ?_, ?_⟩
               · by_cases e : j = i.toNat
                 · subst e; exact absurd q3 hnl
                 · exact d2 j (by omega) q2 q3
               · rcases d3 with ⟨f1, f2, f3⟩ | ⟨c0, f1, f2, f3, f4, f5, f6⟩
                 · refine Or.inl ⟨f1, f2, fun j q1 q2 q3 => ?_⟩
                   by_cases e : j = i.toNat
                   · subst e; exact absurd q3 hnl
                   · exact f3 j (by omega) q2 q3
                 · refine Or.inr ⟨c0, f1, by omega, f3, f4, f5, fun j q1 q2 q3 => ?_⟩
                   by_cases e : j = i.toNat
                   · subst e; exact absurd q3 hnl
                   · exact f6 j (by omega) q2 q3
             · first
               | rfl
               | (funext k' j
                  by_cases a7 : k' = 36
                  · subst a7
                    simp [row, aset]
                    try (split <;> rfl)
                  · by_cases a6 : k' = 35
                    · subst a6
                      simp [row, aset]
                      try (split <;> rfl)
                    · simp [row, aset, a7, a6]))
          | (refine j_cast (ih _ (by omega) (i + -1) (g 31 i.toNat + A (P + g 30 i.toNat).toNat) i _ rfl (by omega) (by omega) (by omega) (by omega) (by omega) ?_) rfl rfl ?_
             · rw [show (i + -1 + 1).toNat = i.toNat by omega]
               rw [show (i + 1).toNat = i.toNat + 1 by omega] at hD
               obtain ⟨d1, d2, d3⟩ := hD
               have ecd : g 31 i.toNat + A (((P.toNat : Nat) : Int) + g 30 i.toNat).toNat = g 31 i.toNat + A (P + g 30 i.toNat).toNat := by rw [ep]
               refine ⟨by omega, fun j q1 q2 q3 => ?_, Or.inr ⟨i.toNat, by omega, by omega, by omega, hli, ecd, fun j q1 q2 q3 => by omega⟩⟩
               by_cases e : j = i.toNat
               · subst e; exact Int.le_of_eq ecd
               · have := d2 j (by omega) q2 q3
                 dsimp only at this ⊢
                 omega
             · first
               | rfl
               | (funext k' j
                  by_cases a7 : k' = 36
                  · subst a7
                    simp [row, aset]
                    try (split <;> rfl)
                  · by_cases a6 : k' = 35
                    · subst a6
                      simp [row, aset]
                      try (split <;> rfl)
                    · simp [row, aset, a7, a6]))
          | (refine j_cast (ih _ (by omega) (i + -1) m ch _ rfl (by omega) (by omega) (by omega) (by omega) (by omega) ?_) rfl rfl ?_
             · rw [show (i + -1 + 1).toNat = i.toNat by omega]
               rw [show (i + 1).toNat = i.toNat + 1 by omega] at hD
               obtain ⟨d1, d2, d3⟩ := hD
               have ecd : g 31 i.toNat + A (((P.toNat : Nat) : Int) + g 30 i.toNat).toNat = g 31 i.toNat + A (P + g 30 i.toNat).toNat := by rw [ep]
               refine ⟨d1, fun j q1 q2 q3 => ?_, ?_⟩
               · by_cases e : j = i.toNat
                 · subst e
                   dsimp only
                   omega
                 · exact d2 j (by omega) q2 q3
               · rcases d3 with ⟨f1, f2, f3⟩ | ⟨c0, f1, f2, f3, f4, f5, f6⟩
                 · refine Or.inl ⟨f1, f2, fun j q1 q2 q3 => ?_⟩
                   by_cases e : j = i.toNat
                   · subst e
                     dsimp only
                     omega
                   · exact f3 j (by omega) q2 q3
                 · refine Or.inr ⟨c0, f1, by omega, f3, f4, f5, fun j q1 q2 q3 => ?_⟩
                   by_cases e : j = i.toNat
                   · subst e
                     dsimp only
                     omega
                   · exact f6 j (by omega) q2 q3
             · first
               | rfl
               | (funext k' j
                  by_cases a7 : k' = 36
                  · subst a7
                    simp [row, aset]
                    try (split <;> rfl)
                  · by_cases a6 : k' = 35
                    · subst a6
                      simp [row, aset]
                      try (split <;> rfl)
                    · simp [row, aset, a7, a6]))
        · refine j_aload_n C dX5_layCut_98 rfl ?_
          refine j_getR C fX5_layCut_63 rfl rfl dX5_layCut_99 ?_
          refine j_iload_n C dX5_layCut_102 rfl ?_
          refine j_iload_n C dX5_layCut_103 rfl ?_
          refine j_iastore C rfl (by decide) dX5_layCut_104 (by first | omega | (refine ⟨?_, ?_⟩ <;> omega) | exact hw _ _ | exact nrm_R _) (by first | omega | (refine ⟨?_, ?_⟩ <;> omega) | exact hw _ _ | exact nrm_R _) (by first | omega | (refine ⟨?_, ?_⟩ <;> omega) | exact hw _ _ | exact nrm_R _) ?_
          refine j_aload_n C dX5_layCut_105 rfl ?_
          refine j_getR C fX5_layCut_66 rfl rfl dX5_layCut_106 ?_
          refine j_iload_n C dX5_layCut_109 rfl ?_
          refine j_iload_n C dX5_layCut_110 rfl ?_
          refine j_iastore C rfl (by decide) dX5_layCut_111 (by first | omega | (refine ⟨?_, ?_⟩ <;> omega) | exact hw _ _ | exact nrm_R _) (by first | omega | (refine ⟨?_, ?_⟩ <;> omega) | exact hw _ _ | exact nrm_R _) (by first | omega | (refine ⟨?_, ?_⟩ <;> omega) | exact hw _ _ | exact nrm_R _) ?_
          refine j_iinc C dX5_layCut_112 rfl ?_
          dsimp only [List.set]
          refine j_goto C (tgt := 50) dX5_layCut_115 (by decide) ?_
          first
          | (exfalso; omega)
          | (refine j_cast (ih _ (by omega) (i + -1) m ch _ rfl (by omega) (by omega) (by omega) (by omega) (by omega) ?_) rfl rfl ?_
             · rw [show (i + -1 + 1).toNat = i.toNat by omega]
               rw [show (i + 1).toNat = i.toNat + 1 by omega] at hD
               obtain ⟨d1, d2, d3⟩ := hD
               have hnl : ¬ lieP (g 30 i.toNat) (g 32 i.toNat) (g 21 0) (szM g) ((P.toNat : Nat) : Int) := fun z => by rw [ep] at z; have := hi_57.mpr z; omega
               refine ⟨d1, fun j q1 q2 q3 => ?_, ?_⟩
               · by_cases e : j = i.toNat
                 · subst e; exact absurd q3 hnl
                 · exact d2 j (by omega) q2 q3
               · rcases d3 with ⟨f1, f2, f3⟩ | ⟨c0, f1, f2, f3, f4, f5, f6⟩
                 · refine Or.inl ⟨f1, f2, fun j q1 q2 q3 => ?_⟩
                   by_cases e : j = i.toNat
                   · subst e; exact absurd q3 hnl
                   · exact f3 j (by omega) q2 q3
                 · refine Or.inr ⟨c0, f1, by omega, f3, f4, f5, fun j q1 q2 q3 => ?_⟩
                   by_cases e : j = i.toNat
                   · subst e; exact absurd q3 hnl
                   · exact f6 j (by omega) q2 q3
             · first
               | rfl
               | (funext k' j
                  by_cases a7 : k' = 36
                  · subst a7
                    simp [row, aset]
                    try (split <;> rfl)
                  · by_cases a6 : k' = 35
                    · subst a6
                      simp [row, aset]
                      try (split <;> rfl)
                    · simp [row, aset, a7, a6]))
          | (refine j_cast (ih _ (by omega) (i + -1) (g 31 i.toNat + A (P + g 30 i.toNat).toNat) i _ rfl (by omega) (by omega) (by omega) (by omega) (by omega) ?_) rfl rfl ?_
             · rw [show (i + -1 + 1).toNat = i.toNat by omega]
               rw [show (i + 1).toNat = i.toNat + 1 by omega] at hD
               obtain ⟨d1, d2, d3⟩ := hD
               have ecd : g 31 i.toNat + A (((P.toNat : Nat) : Int) + g 30 i.toNat).toNat = g 31 i.toNat + A (P + g 30 i.toNat).toNat := by rw [ep]
               refine ⟨by omega, fun j q1 q2 q3 => ?_, Or.inr ⟨i.toNat, by omega, by omega, by omega, hli, ecd, fun j q1 q2 q3 => by omega⟩⟩
               by_cases e : j = i.toNat
               · subst e; exact Int.le_of_eq ecd
               · have := d2 j (by omega) q2 q3
                 dsimp only at this ⊢
                 omega
             · first
               | rfl
               | (funext k' j
                  by_cases a7 : k' = 36
                  · subst a7
                    simp [row, aset]
                    try (split <;> rfl)
                  · by_cases a6 : k' = 35
                    · subst a6
                      simp [row, aset]
                      try (split <;> rfl)
                    · simp [row, aset, a7, a6]))
          | (refine j_cast (ih _ (by omega) (i + -1) m ch _ rfl (by omega) (by omega) (by omega) (by omega) (by omega) ?_) rfl rfl ?_
             · rw [show (i + -1 + 1).toNat = i.toNat by omega]
               rw [show (i + 1).toNat = i.toNat + 1 by omega] at hD
               obtain ⟨d1, d2, d3⟩ := hD
               have ecd : g 31 i.toNat + A (((P.toNat : Nat) : Int) + g 30 i.toNat).toNat = g 31 i.toNat + A (P + g 30 i.toNat).toNat := by rw [ep]
               refine ⟨d1, fun j q1 q2 q3 => ?_, ?_⟩
               · by_cases e : j = i.toNat
                 · subst e
                   dsimp only
                   omega
                 · exact d2 j (by omega) q2 q3
               · rcases d3 with ⟨f1, f2, f3⟩ | ⟨c0, f1, f2, f3, f4, f5, f6⟩
                 · refine Or.inl ⟨f1, f2, fun j q1 q2 q3 => ?_⟩
                   by_cases e : j = i.toNat
                   · subst e
                     dsimp only
                     omega
                   · exact f3 j (by omega) q2 q3
                 · refine Or.inr ⟨c0, f1, by omega, f3, f4, f5, fun j q1 q2 q3 => ?_⟩
                   by_cases e : j = i.toNat
                   · subst e
                     dsimp only
                     omega
                   · exact f6 j (by omega) q2 q3
             · first
               | rfl
               | (funext k' j
                  by_cases a7 : k' = 36
                  · subst a7
                    simp [row, aset]
                    try (split <;> rfl)
                  · by_cases a6 : k' = 35
                    · subst a6
                      simp [row, aset]
                      try (split <;> rfl)
                    · simp [row, aset, a7, a6]))
      · have hli : lieP (g 30 i.toNat) (g 32 i.toNat) (g 21 0) (szM g) ((P.toNat : Nat) : Int) := by rw [ep]; exact hi_57.mp (by omega)
        have hw1 := hK.2.2.2.2 i.toNat (by omega)
        have hen := hli.1
        have hA2 := hA (P + g 30 i.toNat).toNat (by omega) (by omega)
        have e36 : (row (row g 35 (fun j => if j = P.toNat then m else A j)) 36 (fun j => if j = P.toNat then ch else B j)) 35 (P + g 30 i.toNat).toNat = A (P + g 30 i.toNat).toNat := by rw [e35, if_neg (by omega)]
        refine j_aload_n C dX5_layCut_63 rfl ?_
        refine j_getR C fX5_layCut_51 rfl rfl dX5_layCut_64 ?_
        refine j_iload_n C dX5_layCut_67 rfl ?_
        refine j_iaload C rfl (by decide) dX5_layCut_68 (by first | omega | (refine ⟨?_, ?_⟩ <;> omega) | exact hw _ _ | exact nrm_R _) (by first | omega | (refine ⟨?_, ?_⟩ <;> omega) | exact hw _ _ | exact nrm_R _) ?_
        rw [e31]
        refine j_aload_n C dX5_layCut_69 rfl ?_
        refine j_getR C fX5_layCut_63 rfl rfl dX5_layCut_70 ?_
        refine j_iload_n C dX5_layCut_73 rfl ?_
        refine j_aload_n C dX5_layCut_74 rfl ?_
        refine j_getR C fX5_layCut_48 rfl rfl dX5_layCut_75 ?_
        refine j_iload_n C dX5_layCut_78 rfl ?_
        refine j_iaload C rfl (by decide) dX5_layCut_79 (by first | omega | (refine ⟨?_, ?_⟩ <;> omega) | exact hw _ _ | exact nrm_R _) (by first | omega | (refine ⟨?_, ?_⟩ <;> omega) | exact hw _ _ | exact nrm_R _) ?_
        rw [e30]
        refine j_iadd C dX5_layCut_80 ?_
        refine j_iaload C rfl (by decide) dX5_layCut_81 (by first | omega | (refine ⟨?_, ?_⟩ <;> omega) | exact hw _ _ | exact nrm_R _) (by first | omega | (refine ⟨?_, ?_⟩ <;> omega) | exact hw _ _ | exact nrm_R _) ?_
        rw [e36]
        refine j_iadd C dX5_layCut_82 ?_
        refine j_goto C (tgt := 87) dX5_layCut_83 (by decide) ?_
        refine j_istore_n C dX5_layCut_87 (Nat.le_of_ble_eq_true rfl) ?_
        dsimp only [List.set]
        refine j_iload_n C dX5_layCut_88 rfl ?_
        refine j_aload_n C dX5_layCut_89 rfl ?_
        refine j_getR C fX5_layCut_63 rfl rfl dX5_layCut_90 ?_
        refine j_iload_n C dX5_layCut_93 rfl ?_
        refine j_iaload C rfl (by decide) dX5_layCut_94 (by first | omega | (refine ⟨?_, ?_⟩ <;> omega) | exact hw _ _ | exact nrm_R _) (by first | omega | (refine ⟨?_, ?_⟩ <;> omega) | exact hw _ _ | exact nrm_R _) ?_
        rw [e35, if_pos (by omega)]
        refine j_icmp_lt C (tgt := 112) dX5_layCut_95 (by decide) (by first | omega | (refine ⟨?_, ?_⟩ <;> omega) | exact hw _ _ | exact nrm_R _) (by first | omega | (refine ⟨?_, ?_⟩ <;> omega) | exact hw _ _ | exact nrm_R _) (fun c_95 => ?_) (fun c_95 => ?_)
        · refine j_iinc C dX5_layCut_112 rfl ?_
          dsimp only [List.set]
          refine j_goto C (tgt := 50) dX5_layCut_115 (by decide) ?_
          first
          | (exfalso; omega)
          | (refine j_cast (ih _ (by omega) (i + -1) m ch _ rfl (by omega) (by omega) (by omega) (by omega) (by omega) ?_) rfl rfl ?_
             · rw [show (i + -1 + 1).toNat = i.toNat by omega]
               rw [show (i + 1).toNat = i.toNat + 1 by omega] at hD
               obtain ⟨d1, d2, d3⟩ := hD
               have hnl : ¬ lieP (g 30 i.toNat) (g 32 i.toNat) (g 21 0) (szM g) ((P.toNat : Nat) : Int) := fun z => by rw [ep] at z; have := hi_57.mpr z; omega
               refine ⟨d1, fun j q1 q2 q3 => ?_, ?_⟩
               · by_cases e : j = i.toNat
                 · subst e; exact absurd q3 hnl
                 · exact d2 j (by omega) q2 q3
               · rcases d3 with ⟨f1, f2, f3⟩ | ⟨c0, f1, f2, f3, f4, f5, f6⟩
                 · refine Or.inl ⟨f1, f2, fun j q1 q2 q3 => ?_⟩
                   by_cases e : j = i.toNat
                   · subst e; exact absurd q3 hnl
                   · exact f3 j (by omega) q2 q3
                 · refine Or.inr ⟨c0, f1, by omega, f3, f4, f5, fun j q1 q2 q3 => ?_⟩
                   by_cases e : j = i.toNat
                   · subst e; exact absurd q3 hnl
                   · exact f6 j (by omega) q2 q3
             · first
               | rfl
               | (funext k' j
                  by_cases a7 : k' = 36
                  · subst a7
                    simp [row, aset]
                    try (split <;> rfl)
                  · by_cases a6 : k' = 35
                    · subst a6
                      simp [row, aset]
                      try (split <;> rfl)
                    · simp [row, aset, a7, a6]))
          | (refine j_cast (ih _ (by omega) (i + -1) (g 31 i.toNat + A (P + g 30 i.toNat).toNat) i _ rfl (by omega) (by omega) (by omega) (by omega) (by omega) ?_) rfl rfl ?_
             · rw [show (i + -1 + 1).toNat = i.toNat by omega]
               rw [show (i + 1).toNat = i.toNat + 1 by omega] at hD
               obtain ⟨d1, d2, d3⟩ := hD
               have ecd : g 31 i.toNat + A (((P.toNat : Nat) : Int) + g 30 i.toNat).toNat = g 31 i.toNat + A (P + g 30 i.toNat).toNat := by rw [ep]
               refine ⟨by omega, fun j q1 q2 q3 => ?_, Or.inr ⟨i.toNat, by omega, by omega, by omega, hli, ecd, fun j q1 q2 q3 => by omega⟩⟩
               by_cases e : j = i.toNat
               · subst e; exact Int.le_of_eq ecd
               · have := d2 j (by omega) q2 q3
                 dsimp only at this ⊢
                 omega
             · first
               | rfl
               | (funext k' j
                  by_cases a7 : k' = 36
                  · subst a7
                    simp [row, aset]
                    try (split <;> rfl)
                  · by_cases a6 : k' = 35
                    · subst a6
                      simp [row, aset]
                      try (split <;> rfl)
                    · simp [row, aset, a7, a6]))
          | (refine j_cast (ih _ (by omega) (i + -1) m ch _ rfl (by omega) (by omega) (by omega) (by omega) (by omega) ?_) rfl rfl ?_
             · rw [show (i + -1 + 1).toNat = i.toNat by omega]
               rw [show (i + 1).toNat = i.toNat + 1 by omega] at hD
               obtain ⟨d1, d2, d3⟩ := hD
               have ecd : g 31 i.toNat + A (((P.toNat : Nat) : Int) + g 30 i.toNat).toNat = g 31 i.toNat + A (P + g 30 i.toNat).toNat := by rw [ep]
               refine ⟨d1, fun j q1 q2 q3 => ?_, ?_⟩
               · by_cases e : j = i.toNat
                 · subst e
                   dsimp only
                   omega
                 · exact d2 j (by omega) q2 q3
               · rcases d3 with ⟨f1, f2, f3⟩ | ⟨c0, f1, f2, f3, f4, f5, f6⟩
                 · refine Or.inl ⟨f1, f2, fun j q1 q2 q3 => ?_⟩
                   by_cases e : j = i.toNat
                   · subst e
                     dsimp only
                     omega
                   · exact f3 j (by omega) q2 q3
                 · refine Or.inr ⟨c0, f1, by omega, f3, f4, f5, fun j q1 q2 q3 => ?_⟩
                   by_cases e : j = i.toNat
                   · subst e
                     dsimp only
                     omega
                   · exact f6 j (by omega) q2 q3
             · first
               | rfl
               | (funext k' j
                  by_cases a7 : k' = 36
                  · subst a7
                    simp [row, aset]
                    try (split <;> rfl)
                  · by_cases a6 : k' = 35
                    · subst a6
                      simp [row, aset]
                      try (split <;> rfl)
                    · simp [row, aset, a7, a6]))
        · refine j_aload_n C dX5_layCut_98 rfl ?_
          refine j_getR C fX5_layCut_63 rfl rfl dX5_layCut_99 ?_
          refine j_iload_n C dX5_layCut_102 rfl ?_
          refine j_iload_n C dX5_layCut_103 rfl ?_
          refine j_iastore C rfl (by decide) dX5_layCut_104 (by first | omega | (refine ⟨?_, ?_⟩ <;> omega) | exact hw _ _ | exact nrm_R _) (by first | omega | (refine ⟨?_, ?_⟩ <;> omega) | exact hw _ _ | exact nrm_R _) (by first | omega | (refine ⟨?_, ?_⟩ <;> omega) | exact hw _ _ | exact nrm_R _) ?_
          refine j_aload_n C dX5_layCut_105 rfl ?_
          refine j_getR C fX5_layCut_66 rfl rfl dX5_layCut_106 ?_
          refine j_iload_n C dX5_layCut_109 rfl ?_
          refine j_iload_n C dX5_layCut_110 rfl ?_
          refine j_iastore C rfl (by decide) dX5_layCut_111 (by first | omega | (refine ⟨?_, ?_⟩ <;> omega) | exact hw _ _ | exact nrm_R _) (by first | omega | (refine ⟨?_, ?_⟩ <;> omega) | exact hw _ _ | exact nrm_R _) (by first | omega | (refine ⟨?_, ?_⟩ <;> omega) | exact hw _ _ | exact nrm_R _) ?_
          refine j_iinc C dX5_layCut_112 rfl ?_
          dsimp only [List.set]
          refine j_goto C (tgt := 50) dX5_layCut_115 (by decide) ?_
          first
          | (exfalso; omega)
          | (refine j_cast (ih _ (by omega) (i + -1) m ch _ rfl (by omega) (by omega) (by omega) (by omega) (by omega) ?_) rfl rfl ?_
             · rw [show (i + -1 + 1).toNat = i.toNat by omega]
               rw [show (i + 1).toNat = i.toNat + 1 by omega] at hD
               obtain ⟨d1, d2, d3⟩ := hD
               have hnl : ¬ lieP (g 30 i.toNat) (g 32 i.toNat) (g 21 0) (szM g) ((P.toNat : Nat) : Int) := fun z => by rw [ep] at z; have := hi_57.mpr z; omega
               refine ⟨d1, fun j q1 q2 q3 => ?_, ?_⟩
               · by_cases e : j = i.toNat
                 · subst e; exact absurd q3 hnl
                 · exact d2 j (by omega) q2 q3
               · rcases d3 with ⟨f1, f2, f3⟩ | ⟨c0, f1, f2, f3, f4, f5, f6⟩
                 · refine Or.inl ⟨f1, f2, fun j q1 q2 q3 => ?_⟩
                   by_cases e : j = i.toNat
                   · subst e; exact absurd q3 hnl
                   · exact f3 j (by omega) q2 q3
                 · refine Or.inr ⟨c0, f1, by omega, f3, f4, f5, fun j q1 q2 q3 => ?_⟩
                   by_cases e : j = i.toNat
                   · subst e; exact absurd q3 hnl
                   · exact f6 j (by omega) q2 q3
             · first
               | rfl
               | (funext k' j
                  by_cases a7 : k' = 36
                  · subst a7
                    simp [row, aset]
                    try (split <;> rfl)
                  · by_cases a6 : k' = 35
                    · subst a6
                      simp [row, aset]
                      try (split <;> rfl)
                    · simp [row, aset, a7, a6]))
          | (refine j_cast (ih _ (by omega) (i + -1) (g 31 i.toNat + A (P + g 30 i.toNat).toNat) i _ rfl (by omega) (by omega) (by omega) (by omega) (by omega) ?_) rfl rfl ?_
             · rw [show (i + -1 + 1).toNat = i.toNat by omega]
               rw [show (i + 1).toNat = i.toNat + 1 by omega] at hD
               obtain ⟨d1, d2, d3⟩ := hD
               have ecd : g 31 i.toNat + A (((P.toNat : Nat) : Int) + g 30 i.toNat).toNat = g 31 i.toNat + A (P + g 30 i.toNat).toNat := by rw [ep]
               refine ⟨by omega, fun j q1 q2 q3 => ?_, Or.inr ⟨i.toNat, by omega, by omega, by omega, hli, ecd, fun j q1 q2 q3 => by omega⟩⟩
               by_cases e : j = i.toNat
               · subst e; exact Int.le_of_eq ecd
               · have := d2 j (by omega) q2 q3
                 dsimp only at this ⊢
                 omega
             · first
               | rfl
               | (funext k' j
                  by_cases a7 : k' = 36
                  · subst a7
                    simp [row, aset]
                    try (split <;> rfl)
                  · by_cases a6 : k' = 35
                    · subst a6
                      simp [row, aset]
                      try (split <;> rfl)
                    · simp [row, aset, a7, a6]))
          | (refine j_cast (ih _ (by omega) (i + -1) m ch _ rfl (by omega) (by omega) (by omega) (by omega) (by omega) ?_) rfl rfl ?_
             · rw [show (i + -1 + 1).toNat = i.toNat by omega]
               rw [show (i + 1).toNat = i.toNat + 1 by omega] at hD
               obtain ⟨d1, d2, d3⟩ := hD
               have ecd : g 31 i.toNat + A (((P.toNat : Nat) : Int) + g 30 i.toNat).toNat = g 31 i.toNat + A (P + g 30 i.toNat).toNat := by rw [ep]
               refine ⟨d1, fun j q1 q2 q3 => ?_, ?_⟩
               · by_cases e : j = i.toNat
                 · subst e
                   dsimp only
                   omega
                 · exact d2 j (by omega) q2 q3
               · rcases d3 with ⟨f1, f2, f3⟩ | ⟨c0, f1, f2, f3, f4, f5, f6⟩
                 · refine Or.inl ⟨f1, f2, fun j q1 q2 q3 => ?_⟩
                   by_cases e : j = i.toNat
                   · subst e
                     dsimp only
                     omega
                   · exact f3 j (by omega) q2 q3
                 · refine Or.inr ⟨c0, f1, by omega, f3, f4, f5, fun j q1 q2 q3 => ?_⟩
                   by_cases e : j = i.toNat
                   · subst e
                     dsimp only
                     omega
                   · exact f6 j (by omega) q2 q3
             · first
               | rfl
               | (funext k' j
                  by_cases a7 : k' = 36
                  · subst a7
                    simp [row, aset]
                    try (split <;> rfl)
                  · by_cases a6 : k' = 35
                    · subst a6
                      simp [row, aset]
                      try (split <;> rfl)
                    · simp [row, aset, a7, a6]))
  have lp : ∀ k : Nat, ∀ (i : Int) (A B : Nat → Int) (l2 l3 : Option AV), (i + 1).toNat = k → -1 ≤ i → i < g 21 0 → cutF (g 21 0) (g 21 14).toNat (g 30) (g 31) (g 32) (szM g) i A B → J q ShW 0 0 17 [some (.inr 21), some (.inl i), l2, l3] [] (row (row g 35 A) 36 B) := by
    refine byN _ (fun k ih i A B l2 l3 hn2 h0 h9 hF => ?_)
    have e35 : ∀ j, (row (row g 35 A) 36 B) 35 j = A j := fun j => rfl
    refine j_iload_n C dX5_layCut_17 rfl ?_
    refine j_if_lt C (tgt := 124) dX5_layCut_18 (by decide) (by first | omega | (refine ⟨?_, ?_⟩ <;> omega) | exact hw _ _ | exact nrm_R _) (fun c_18 => ?_) (fun c_18 => ?_)
    · refine j_vretV C dX5_layCut_124 (fun hw9 => ?_)
      exact ⟨A, B, cutF_T (by omega) hF, fun j hj => (hF.2.2 j (by omega) hj).2, rfl⟩
    · have hA1 := hF.2.1 (i + 1).toNat (by omega) (by omega)
      have e1 : (i + 1).toNat = i.toNat + 1 := by omega
      refine j_aload_n C dX5_layCut_21 rfl ?_
      refine j_getR C fX5_layCut_63 rfl rfl dX5_layCut_22 ?_
      refine j_iload_n C dX5_layCut_25 rfl ?_
      refine j_aload_n C dX5_layCut_26 rfl ?_
      refine j_getR C fX5_layCut_63 rfl rfl dX5_layCut_27 ?_
      refine j_iload_n C dX5_layCut_30 rfl ?_
      refine j_iconst C dX5_layCut_31 ?_
      refine j_iadd C dX5_layCut_32 ?_
      refine j_iaload C rfl (by decide) dX5_layCut_33 (by first | omega | (refine ⟨?_, ?_⟩ <;> omega) | exact hw _ _ | exact nrm_R _) (by first | omega | (refine ⟨?_, ?_⟩ <;> omega) | exact hw _ _ | exact nrm_R _) ?_
      rw [e35, e1]
      refine j_iastore C rfl (by decide) dX5_layCut_34 (by first | omega | (refine ⟨?_, ?_⟩ <;> omega) | exact hw _ _ | exact nrm_R _) (by first | omega | (refine ⟨?_, ?_⟩ <;> omega) | exact hw _ _ | exact nrm_R _) (by rw [e1] at hA1; refine ⟨?_, ?_⟩ <;> omega) ?_
      refine j_aload_n C dX5_layCut_35 rfl ?_
      refine j_getR C fX5_layCut_66 rfl rfl dX5_layCut_36 ?_
      refine j_iload_n C dX5_layCut_39 rfl ?_
      refine j_bipush C dX5_layCut_40 (by decide +kernel) ?_
      refine j_iastore C rfl (by decide) dX5_layCut_42 (by first | omega | (refine ⟨?_, ?_⟩ <;> omega) | exact hw _ _ | exact nrm_R _) (by first | omega | (refine ⟨?_, ?_⟩ <;> omega) | exact hw _ _ | exact nrm_R _) (by first | omega | (refine ⟨?_, ?_⟩ <;> omega) | exact hw _ _ | exact nrm_R _) ?_
      refine j_aload_n C dX5_layCut_43 rfl ?_
      refine j_getI C fX5_layCut_82 rfl rfl dX5_layCut_44 ?_
      refine j_iconst C dX5_layCut_47 ?_
      refine j_isub C dX5_layCut_48 ?_
      refine j_istore_n C dX5_layCut_49 (Nat.le_of_ble_eq_true rfl) ?_
      dsimp only [List.set]
      rw [e1] at hA1
      refine j_cast (inn i A B (by omega) h9 hF.2.1 (fun m ch hm0 hm1 hch hD l2 l3 => ?_) _ (g 21 14 - 1) (A (i.toNat + 1)) (-6) l3 rfl (by omega) (by omega) (by omega) (by omega) (Or.inl rfl) ⟨Int.le_refl _, fun j q1 q2 q3 => by omega, Or.inl ⟨rfl, rfl, fun j q1 q2 q3 => by omega⟩⟩) rfl rfl ?_
      · refine j_iinc C dX5_layCut_118 rfl ?_
        dsimp only [List.set]
        refine j_goto C (tgt := 17) dX5_layCut_121 (by decide) ?_
        refine ih _ (by omega) (i + -1) (fun j => if j = i.toNat then m else A j) (fun j => if j = i.toNat then ch else B j) _ _ rfl (by omega) (by omega) ?_
        exact cutF_s hW (by omega) h9 hF hD ⟨hm0, hm1⟩ hch
      · funext k' j
        by_cases a7 : k' = 36
        · subst a7
          simp [row, aset]
        · by_cases a6 : k' = 35
          · subst a6
            simp [row, aset]
          · simp [row, aset, a7, a6]
  refine j_aload_n C dX5_layCut_0 rfl ?_
  refine j_getR C fX5_layCut_63 rfl rfl dX5_layCut_1 ?_
  refine j_aload_n C dX5_layCut_4 rfl ?_
  refine j_getI C fX5_layCut_7 rfl rfl dX5_layCut_5 ?_
  refine j_iconst C dX5_layCut_8 ?_
  refine j_iastore C rfl (by decide) dX5_layCut_9 (by first | omega | (refine ⟨?_, ?_⟩ <;> omega) | exact hw _ _ | exact nrm_R _) (by first | omega | (refine ⟨?_, ?_⟩ <;> omega) | exact hw _ _ | exact nrm_R _) (by first | omega | (refine ⟨?_, ?_⟩ <;> omega) | exact hw _ _ | exact nrm_R _) ?_
  refine j_aload_n C dX5_layCut_10 rfl ?_
  refine j_getI C fX5_layCut_7 rfl rfl dX5_layCut_11 ?_
  refine j_iconst C dX5_layCut_14 ?_
  refine j_isub C dX5_layCut_15 ?_
  refine j_istore_n C dX5_layCut_16 (Nat.le_of_ble_eq_true rfl) ?_
  dsimp only [List.set]
  refine j_cast (lp _ (g 21 0 - 1) (fun j => if j = (g 21 0).toNat then 0 else g 35 j) (g 36) none none rfl (by omega) (by omega) ⟨by simp, fun j q1 q2 => ?_, fun j q1 q2 => by omega⟩) rfl rfl ?_
  · dsimp only
    rw [if_pos (by omega)]
    omega
  · funext k' j
    by_cases a7 : k' = 36
    · subst a7
      simp [row, aset]
    · by_cases a6 : k' = 35
      · subst a6
        simp [row, aset]
      · simp [row, aset, a7, a6]
set_option maxHeartbeats 4000000 in
set_option maxRecDepth 100000 in
theorem ct_X5_cut {g : AG} (h : LM g ∧ KM g) : MetI yX5_cut wsX5_cut rmX5_cut ShW [.inr 21] g (fun x g' => ∃ A B : Nat → Int, cutT (g 21 0) (g 21 14).toNat (g 30) (g 31) (g 32) (szM g) A B ∧ x = A 0 ∧ g' = row (row g 35 A) 36 B) := by
  refine metI_of (cc := cX5_cut) (nL := 1) false (by decide +kernel) rfl (Nat.le_of_ble_eq_true rfl) (fun q J C => ?_)
  show J q ShW 0 0 0 [some (.inr 21)] [] g
  refine j_wf C (fun hw => ?_)
  refine j_aload_n C dX5_cut_0 rfl ?_
  refine j_callVv0 C vX5_cut_130 rfl rfl (Nat.le_of_ble_eq_true rfl) ⟨Nat.zero_le _, Nat.zero_le _⟩ dX5_cut_1 (ct_X5_layCut h) (fun g_1 hk_1 => ?_)
  obtain ⟨A_1, B_1, hT_1, hB_1, rfl⟩ := hk_1
  refine j_aload_n C dX5_cut_4 rfl ?_
  refine j_getR C fX5_cut_63 rfl rfl dX5_cut_5 ?_
  refine j_iconst C dX5_cut_8 ?_
  refine j_iaload C rfl (by decide) dX5_cut_9 (by first | omega | (refine ⟨?_, ?_⟩ <;> omega) | exact hw _ _ | exact nrm_R _) (by first | omega | (refine ⟨?_, ?_⟩ <;> omega) | exact hw _ _ | exact nrm_R _) ?_
  refine j_iretI C dX5_cut_10 (by intro h; cases h) (fun hw9 => ?_)
  exact ⟨A_1, B_1, hT_1, rfl, rfl⟩
set_option maxHeartbeats 4000000 in
set_option maxRecDepth 100000 in
theorem ct_X5_cutAt {p : Int} {g : AG} (h : LM g ∧ KM g ∧ aR p) : MetI yX5_cutAt wsX5_cutAt rmX5_cutAt ShW [.inr 21, .inl p] g (fun x g' => (¬ (0 ≤ p ∧ p ≤ g 21 0 - 1) ∧ x = -1 ∧ g' = g) ∨ ((0 ≤ p ∧ p ≤ g 21 0 - 1) ∧ ∃ A B : Nat → Int, cutT (g 21 0) (g 21 14).toNat (g 30) (g 31) (g 32) (szM g) A B ∧ x = drU B (g 30) (g 21 0).toNat p.toNat ∧ g' = row (row g 35 A) 36 B)) := by
  refine metI_of (cc := cX5_cutAt) (nL := 3) false (by decide +kernel) rfl (Nat.le_of_ble_eq_true rfl) (fun q J C => ?_)
  show J q ShW 0 0 0 [some (.inr 21), some (.inl p), none] [] g
  refine j_wf C (fun hw => ?_)
  obtain ⟨hL, hK, hp⟩ := h
  have hn := hL.1
  have hc := hK.1
  have lp : ∀ (A B : Nat → Int), (0 ≤ p ∧ p ≤ g 21 0 - 1) → cutT (g 21 0) (g 21 14).toNat (g 30) (g 31) (g 32) (szM g) A B → (∀ j : Nat, (j : Int) < g 21 0 → B j = -6 ∨ (0 ≤ B j ∧ B j < ((g 21 14).toNat : Int))) → ∀ k : Nat, ∀ (i : Int), (p + 24 - i).toNat = k → 0 ≤ i → i ≤ p + 24 → (i ≤ p → ¬ i < frU B (g 30) i.toNat) → (p < i → p < frU B (g 30) p.toNat) → J q ShW 0 0 16 [some (.inr 21), some (.inl p), some (.inl i)] [] (row (row g 35 A) 36 B) := by
    intro A B hpp hT hB
    refine byN _ (fun k ih i hn2 h0 h9 hc1 hc2 => ?_)
    have ei : ((i.toNat : Nat) : Int) = i := by omega
    refine j_iload_n C dX5_cutAt_16 rfl ?_
    refine j_iload_n C dX5_cutAt_17 rfl ?_
    refine j_icmp_ge C (tgt := 51) dX5_cutAt_18 (by decide) (by first | omega | (refine ⟨?_, ?_⟩ <;> omega) | exact hw _ _ | exact nrm_R _) (by first | omega | (refine ⟨?_, ?_⟩ <;> omega) | exact hw _ _ | exact nrm_R _) (fun c_18 => ?_) (fun c_18 => ?_)
    · refine j_iload_n C dX5_cutAt_51 rfl ?_
      refine j_iload_n C dX5_cutAt_52 rfl ?_
      refine j_icmp_ne C (tgt := 65) dX5_cutAt_53 (by decide) (by first | omega | (refine ⟨?_, ?_⟩ <;> omega) | exact hw _ _ | exact nrm_R _) (by first | omega | (refine ⟨?_, ?_⟩ <;> omega) | exact hw _ _ | exact nrm_R _) (fun c_53 => ?_) (fun c_53 => ?_)
      · refine j_bipush C dX5_cutAt_65 (by decide +kernel) ?_
        refine j_iretI C dX5_cutAt_67 (by intro h; cases h) (fun hw9 => ?_)
        refine Or.inr ⟨hpp, A, B, hT, ?_, rfl⟩
        unfold drU
        first
        | (rw [if_pos ⟨by omega, by have := hc2 (by omega); omega⟩]; done)
        | (have e3 : i = p := by omega
           subst e3
           rw [if_neg (fun z => by have := hc1 (by omega); omega)]
           rfl)
      · have hb2 : B i.toNat = -6 ∨ (0 ≤ B i.toNat ∧ B i.toNat < ((g 21 14).toNat : Int)) := hB i.toNat (by omega)
        refine j_aload_n C dX5_cutAt_56 rfl ?_
        refine j_getR C fX5_cutAt_66 rfl rfl dX5_cutAt_57 ?_
        refine j_iload_n C dX5_cutAt_60 rfl ?_
        refine j_iaload C rfl (by decide) dX5_cutAt_61 (by first | omega | (refine ⟨?_, ?_⟩ <;> omega) | exact hw _ _ | exact nrm_R _) (by first | omega | (refine ⟨?_, ?_⟩ <;> omega) | exact hw _ _ | exact nrm_R _) ?_
        refine j_goto C (tgt := 67) dX5_cutAt_62 (by decide) ?_
        refine j_iretI C dX5_cutAt_67 (by intro h; cases h) (fun hw9 => ?_)
        refine Or.inr ⟨hpp, A, B, hT, ?_, rfl⟩
        unfold drU
        first
        | (rw [if_pos ⟨by omega, by have := hc2 (by omega); omega⟩]; done)
        | (have e3 : i = p := by omega
           subst e3
           rw [if_neg (fun z => by have := hc1 (by omega); omega)]
           rfl)
    · have hb2 : B i.toNat = -6 ∨ (0 ≤ B i.toNat ∧ B i.toNat < ((g 21 14).toNat : Int)) := hB i.toNat (by omega)
      have hc3 := hc1 (by omega)
      have e36 : (row (row g 35 A) 36 B) 36 i.toNat = B i.toNat := rfl
      refine j_iload_n C dX5_cutAt_21 rfl ?_
      refine j_aload_n C dX5_cutAt_22 rfl ?_
      refine j_getR C fX5_cutAt_66 rfl rfl dX5_cutAt_23 ?_
      refine j_iload_n C dX5_cutAt_26 rfl ?_
      refine j_iaload C rfl (by decide) dX5_cutAt_27 (by first | omega | (refine ⟨?_, ?_⟩ <;> omega) | exact hw _ _ | exact nrm_R _) (by first | omega | (refine ⟨?_, ?_⟩ <;> omega) | exact hw _ _ | exact nrm_R _) ?_
      rw [e36]
      refine j_if_lt C (tgt := 45) dX5_cutAt_28 (by decide) (by first | omega | (refine ⟨?_, ?_⟩ <;> omega) | exact hw _ _ | exact nrm_R _) (fun c_28 => ?_) (fun c_28 => ?_)
      · refine j_iconst C dX5_cutAt_45 ?_
        refine j_iadd C dX5_cutAt_46 ?_
        refine j_istore_n C dX5_cutAt_47 (Nat.le_of_ble_eq_true rfl) ?_
        dsimp only [List.set]
        refine j_goto C (tgt := 16) dX5_cutAt_48 (by decide) ?_
        first
        | (have hne : ¬ B i.toNat = -6 := by omega
           refine ih _ (by omega) _ rfl (by omega) (by omega) (fun q1 => ?_) (fun q1 => ?_)
           · have h5 := frU_in (B := B) (Wd := g 30) (p := i.toNat) (by omega) hne ((g 30 (B i.toNat).toNat).toNat - 1) (by omega)
             rw [show i.toNat + ((g 30 (B i.toNat).toNat).toNat - 1) + 1 = (i + g 30 (B i.toNat).toNat).toNat by omega] at h5
             omega
           · have h5 := frU_in (B := B) (Wd := g 30) (p := i.toNat) (by omega) hne (p.toNat - i.toNat - 1) (by omega)
             rw [show i.toNat + (p.toNat - i.toNat - 1) + 1 = p.toNat by omega] at h5
             omega)
        | (have hne : B i.toNat = -6 := by omega
           refine ih _ (by omega) _ rfl (by omega) (by omega) (fun q1 => ?_) (fun q1 => by omega)
           rw [show (i + 1).toNat = i.toNat + 1 by omega, frU, if_neg (by omega), if_pos hne]
           omega)
      · have hw1 := hK.2.2.2.2 (B i.toNat).toNat (by omega)
        have hw2 := (hK.2.1 (B i.toNat).toNat).2
        have e30 : (row (row g 35 A) 36 B) 30 (B i.toNat).toNat = g 30 (B i.toNat).toNat := rfl
        refine j_aload_n C dX5_cutAt_31 rfl ?_
        refine j_getR C fX5_cutAt_48 rfl rfl dX5_cutAt_32 ?_
        refine j_aload_n C dX5_cutAt_35 rfl ?_
        refine j_getR C fX5_cutAt_66 rfl rfl dX5_cutAt_36 ?_
        refine j_iload_n C dX5_cutAt_39 rfl ?_
        refine j_iaload C rfl (by decide) dX5_cutAt_40 (by first | omega | (refine ⟨?_, ?_⟩ <;> omega) | exact hw _ _ | exact nrm_R _) (by first | omega | (refine ⟨?_, ?_⟩ <;> omega) | exact hw _ _ | exact nrm_R _) ?_
        rw [e36]
        refine j_iaload C rfl (by decide) dX5_cutAt_41 (by first | omega | (refine ⟨?_, ?_⟩ <;> omega) | exact hw _ _ | exact nrm_R _) (by first | omega | (refine ⟨?_, ?_⟩ <;> omega) | exact hw _ _ | exact nrm_R _) ?_
        rw [e30]
        refine j_goto C (tgt := 46) dX5_cutAt_42 (by decide) ?_
        refine j_iadd C dX5_cutAt_46 ?_
        refine j_istore_n C dX5_cutAt_47 (Nat.le_of_ble_eq_true rfl) ?_
        dsimp only [List.set]
        refine j_goto C (tgt := 16) dX5_cutAt_48 (by decide) ?_
        first
        | (have hne : ¬ B i.toNat = -6 := by omega
           refine ih _ (by omega) _ rfl (by omega) (by omega) (fun q1 => ?_) (fun q1 => ?_)
           · have h5 := frU_in (B := B) (Wd := g 30) (p := i.toNat) (by omega) hne ((g 30 (B i.toNat).toNat).toNat - 1) (by omega)
             rw [show i.toNat + ((g 30 (B i.toNat).toNat).toNat - 1) + 1 = (i + g 30 (B i.toNat).toNat).toNat by omega] at h5
             omega
           · have h5 := frU_in (B := B) (Wd := g 30) (p := i.toNat) (by omega) hne (p.toNat - i.toNat - 1) (by omega)
             rw [show i.toNat + (p.toNat - i.toNat - 1) + 1 = p.toNat by omega] at h5
             omega)
        | (have hne : B i.toNat = -6 := by omega
           refine ih _ (by omega) _ rfl (by omega) (by omega) (fun q1 => ?_) (fun q1 => by omega)
           rw [show (i + 1).toNat = i.toNat + 1 by omega, frU, if_neg (by omega), if_pos hne]
           omega)
  refine j_aload_n C dX5_cutAt_0 rfl ?_
  refine j_iload_n C dX5_cutAt_1 rfl ?_
  refine j_callVi1 C vX5_cutAt_85 rfl rfl (Nat.le_of_ble_eq_true rfl) ⟨Nat.zero_le _, Nat.zero_le _⟩ dX5_cutAt_2 (ct_X5_isPlace ⟨hp, by omega, by omega⟩) (fun x_2 g_2 hk_2 => ?_)
  obtain ⟨e_2, hb_2, hi_2⟩ := hk_2
  have e_2 := e_2.symm
  subst e_2
  refine j_if_ne C (tgt := 10) dX5_cutAt_5 (by decide) (by first | omega | (refine ⟨?_, ?_⟩ <;> omega) | exact hw _ _ | exact nrm_R _) (fun c_5 => ?_) (fun c_5 => ?_)
  · refine j_aload_n C dX5_cutAt_10 rfl ?_
    refine j_callVv0 C vX5_cutAt_130 rfl rfl (Nat.le_of_ble_eq_true rfl) ⟨Nat.zero_le _, Nat.zero_le _⟩ dX5_cutAt_11 (ct_X5_layCut ⟨hL, hK⟩) (fun g_11 hk_11 => ?_)
    obtain ⟨A_11, B_11, hT_11, hB_11, rfl⟩ := hk_11
    refine j_iconst C dX5_cutAt_14 ?_
    refine j_istore_n C dX5_cutAt_15 (Nat.le_of_ble_eq_true rfl) ?_
    dsimp only [List.set]
    exact lp A_11 B_11 (by omega) hT_11 hB_11 _ 0 rfl (by omega) (by omega) (fun _ => by simp [frU]) (fun h => by omega)
  · refine j_iconst C dX5_cutAt_8 ?_
    refine j_iretI C dX5_cutAt_9 (by intro h; cases h) (fun hw9 => ?_)
    exact Or.inl ⟨by omega, rfl, rfl⟩
