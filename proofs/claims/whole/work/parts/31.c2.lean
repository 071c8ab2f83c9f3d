set_option maxHeartbeats 4000000 in
set_option maxRecDepth 100000 in
theorem ct_J7_fill {Sh : List AC} {k N : Nat} {v : Int} {g : AG} (hs : Sh[k]? = some (.inr (false, N))) (h : N ≤ 2147483647) (hv : aR v) : MetV yJ7_fill_53178 wsJ7_fill_53178 rmJ7_fill_53178 Sh [.inr k, .inl v] g (fun g' => g' = row g k (fillU (g k) N (fun _ => v))) := by
  refine metV_of (cc := cJ7_fill_53178) (nL := 4) (by decide +kernel) rfl (Nat.le_of_ble_eq_true rfl) (fun q J C => ?_)
  show J q Sh 0 0 0 [some (.inr k), some (.inl v), none, none] [] g
  refine j_wf C (fun hw => ?_)
  have lp : ∀ n : Nat, ∀ (i : Int), ((N : Int) - i).toNat = n → 0 ≤ i → i ≤ N → J q Sh 0 0 5 [some (.inr k), some (.inl v), some (.inl i), some (.inl (N : Int))] [] (row g k (fillU (g k) i.toNat (fun _ => v))) := by
    refine byN _ (fun n ih i hn h0 h1 => ?_)
    refine j_wf C (fun hw => ?_)
    refine j_iload_n C dJ7_fill_53178_5 rfl ?_
    refine j_iload_n C dJ7_fill_53178_6 rfl ?_
    refine j_icmp_ge C (tgt := 20) dJ7_fill_53178_7 (by decide) (by first | omega | (refine ⟨?_, ?_⟩ <;> omega) | exact hw _ _ | exact nrm_R _) (by first | omega | (refine ⟨?_, ?_⟩ <;> omega) | exact hw _ _ | exact nrm_R _) (fun c_7 => ?_) (fun c_7 => ?_)
    · refine j_vretV C dJ7_fill_53178_20 (fun hw9 => ?_)
      show _ = _
      congr 3
      omega
    · refine j_aload_n C dJ7_fill_53178_10 rfl ?_
      refine j_iload_n C dJ7_fill_53178_11 rfl ?_
      refine j_iload_n C dJ7_fill_53178_12 rfl ?_
      refine j_iastore C hs (h) dJ7_fill_53178_13 (by first | omega | (refine ⟨?_, ?_⟩ <;> omega) | exact hw _ _ | exact nrm_R _) (by first | omega | (refine ⟨?_, ?_⟩ <;> omega) | exact hw _ _ | exact nrm_R _) (by first | omega | (refine ⟨?_, ?_⟩ <;> omega) | exact hw _ _ | exact nrm_R _) ?_
      refine j_iinc C dJ7_fill_53178_14 rfl ?_
      dsimp only [List.set]
      refine j_goto C (tgt := 5) dJ7_fill_53178_17 (by decide) ?_
      refine j_cast (ih _ (by omega) (i + 1) rfl (by omega) (by omega)) rfl rfl ?_
      rw [show (i + 1).toNat = i.toNat + 1 by omega, fillU_s]
      funext k' j
      by_cases hk : k' = k
      · subst hk
        simp [row, aset]
      · simp [row, aset, hk]
  refine j_iconst C dJ7_fill_53178_0 ?_
  refine j_istore_n C dJ7_fill_53178_1 (Nat.le_of_ble_eq_true rfl) ?_
  dsimp only [List.set]
  refine j_aload_n C dJ7_fill_53178_2 rfl ?_
  refine j_alen C hs dJ7_fill_53178_3 ?_
  refine j_istore_n C dJ7_fill_53178_4 (Nat.le_of_ble_eq_true rfl) ?_
  dsimp only [List.set]
  refine j_cast (lp _ 0 rfl (by omega) (by omega)) rfl rfl ?_
  rw [show (0 : Int).toNat = 0 from rfl, fillU_0, row_id]
set_option maxHeartbeats 4000000 in
set_option maxRecDepth 100000 in
theorem ct_X0_forget0 {Sh : List AC} {k : Nat} {g : AG} (hs : Sh[k]? = some (.inl (0, [some (some (k + 1)), some (some (k + 2)), some (some (k + 3)), some (some (k + 4)), none, none, some (some (k + 5)), some (some (k + 6))]))) (h5 : Sh[k + 5]? = some (.inr (false, 64))) (h6 : Sh[k + 6]? = some (.inr (false, 64))) : MetV yX0_forget wsX0_forget rmX0_forget Sh [.inr k] g (fun g' => g' = row (row (aset (aset g k 4 0) k 5 0) (k + 5) (fillU (g (k + 5)) 64 (fun j => (j : Int)))) (k + 6) (fillU (g (k + 6)) 64 (fun _ => 0))) := by
  refine metV_of (cc := cX0_forget) (nL := 2) (by decide +kernel) rfl (Nat.le_of_ble_eq_true rfl) (fun q J C => ?_)
  show J q Sh 0 0 0 [some (.inr k), none] [] g
  refine j_wf C (fun hw => ?_)
  have lp : ∀ n : Nat, ∀ (i : Int), ((64 : Int) - i).toNat = n → 0 ≤ i → i ≤ 64 → J q Sh 0 0 12 [some (.inr k), some (.inl i)] [] (row (row (aset (aset g k 4 0) k 5 0) (k + 5) (fillU (g (k + 5)) i.toNat (fun j => (j : Int)))) (k + 6) (fillU (g (k + 6)) i.toNat (fun _ => 0))) := by
    refine byN _ (fun n ih i hn h0 h1 => ?_)
    refine j_wf C (fun hw => ?_)
    refine j_iload_n C dX0_forget_12 rfl ?_
    refine j_bipush C dX0_forget_13 (by decide +kernel) ?_
    refine j_icmp_ge C (tgt := 38) dX0_forget_15 (by decide) (by first | omega | (refine ⟨?_, ?_⟩ <;> omega) | exact hw _ _ | exact nrm_R _) (by first | omega | (refine ⟨?_, ?_⟩ <;> omega) | exact hw _ _ | exact nrm_R _) (fun c_15 => ?_) (fun c_15 => ?_)
    · refine j_vretV C dX0_forget_38 (fun hw9 => ?_)
      show _ = _
      rw [show i.toNat = 64 by omega]
    · refine j_aload_n C dX0_forget_18 rfl ?_
      refine j_getR C fX0_forget_25 (by first | exact hs | exact h5 | exact h6) rfl dX0_forget_19 ?_
      refine j_iload_n C dX0_forget_22 rfl ?_
      refine j_iload_n C dX0_forget_23 rfl ?_
      refine j_iastore C (by first | exact hs | exact h5 | exact h6) (by decide) dX0_forget_24 (by first | omega | (refine ⟨?_, ?_⟩ <;> omega) | exact hw _ _ | exact nrm_R _) (by first | omega | (refine ⟨?_, ?_⟩ <;> omega) | exact hw _ _ | exact nrm_R _) (by first | omega | (refine ⟨?_, ?_⟩ <;> omega) | exact hw _ _ | exact nrm_R _) ?_
      refine j_aload_n C dX0_forget_25 rfl ?_
      refine j_getR C fX0_forget_28 (by first | exact hs | exact h5 | exact h6) rfl dX0_forget_26 ?_
      refine j_iload_n C dX0_forget_29 rfl ?_
      refine j_iconst C dX0_forget_30 ?_
      refine j_iastore C (by first | exact hs | exact h5 | exact h6) (by decide) dX0_forget_31 (by first | omega | (refine ⟨?_, ?_⟩ <;> omega) | exact hw _ _ | exact nrm_R _) (by first | omega | (refine ⟨?_, ?_⟩ <;> omega) | exact hw _ _ | exact nrm_R _) (by first | omega | (refine ⟨?_, ?_⟩ <;> omega) | exact hw _ _ | exact nrm_R _) ?_
      refine j_iinc C dX0_forget_32 rfl ?_
      dsimp only [List.set]
      refine j_goto C (tgt := 12) dX0_forget_35 (by decide) ?_
      refine j_cast (ih _ (by omega) (i + 1) rfl (by omega) (by omega)) rfl rfl ?_
      rw [show (i + 1).toNat = i.toNat + 1 by omega, fillU_s, fillU_s]
      have e1 : ((i.toNat : Nat) : Int) = i := by omega
      funext k' j
      by_cases a6 : k' = k + 6
      · subst a6
        simp [row, aset]
      · by_cases a5 : k' = k + 5
        · subst a5
          simp [row, aset, e1]
        · simp [row, aset, a6, a5]
  refine j_aload_n C dX0_forget_0 rfl ?_
  refine j_iconst C dX0_forget_1 ?_
  refine j_putI C pX0_forget_34 (by first | exact hs | exact h5 | exact h6) rfl (by first | omega | (refine ⟨?_, ?_⟩ <;> omega) | exact hw _ _ | exact nrm_R _) (by intro h; cases h) dX0_forget_2 ?_
  refine j_aload_n C dX0_forget_5 rfl ?_
  refine j_iconst C dX0_forget_6 ?_
  refine j_putI C pX0_forget_38 (by first | exact hs | exact h5 | exact h6) rfl (by first | omega | (refine ⟨?_, ?_⟩ <;> omega) | exact hw _ _ | exact nrm_R _) (by intro h; cases h) dX0_forget_7 ?_
  refine j_iconst C dX0_forget_10 ?_
  refine j_istore_n C dX0_forget_11 (Nat.le_of_ble_eq_true rfl) ?_
  dsimp only [List.set]
  refine j_cast (lp _ 0 rfl (by omega) (by omega)) rfl rfl ?_
  rw [show (0 : Int).toNat = 0 from rfl, fillU_0, fillU_0]
  funext k' j
  by_cases a6 : k' = k + 6
  · subst a6
    simp [row, aset]
  · by_cases a5 : k' = k + 5
    · subst a5
      simp [row, aset]
    · simp [row, aset, a6, a5]
/-- the eye forgets -/
def eyeF (g : AG) : AG := row (row (aset (aset g 1 4 0) 1 5 0) 6 (fillU (g 6) 64 (fun j => (j : Int)))) 7 (fillU (g 7) 64 (fun _ => 0))
theorem ct_X0_forget {g : AG} : MetV yX0_forget wsX0_forget rmX0_forget ShW [.inr 1] g (fun g' => g' = eyeF g) := ct_X0_forget0 (k := 1) rfl rfl rfl
/-- the model forgets -/
def modF (g : AG) : AG := row (row (aset g 21 1 0) 26 (fillU (g 26) 64 (fun j => (j : Int)))) 27 (fillU (g 27) 64 (fun _ => 0))
set_option maxHeartbeats 4000000 in
set_option maxRecDepth 100000 in
theorem ct_X5_begin {g : AG} : MetV yX5_begin wsX5_begin rmX5_begin ShW [.inr 21] g (fun g' => g' = modF g) := by
  refine metV_of (cc := cX5_begin) (nL := 2) (by decide +kernel) rfl (Nat.le_of_ble_eq_true rfl) (fun q J C => ?_)
  show J q ShW 0 0 0 [some (.inr 21), none] [] g
  refine j_wf C (fun hw => ?_)
  have lp : ∀ n : Nat, ∀ (i : Int), ((64 : Int) - i).toNat = n → 0 ≤ i → i ≤ 64 → J q ShW 0 0 7 [some (.inr 21), some (.inl i)] [] (row (row (aset g 21 1 0) 26 (fillU (g 26) i.toNat (fun j => (j : Int)))) 27 (fillU (g 27) i.toNat (fun _ => 0))) := by
    refine byN _ (fun n ih i hn h0 h1 => ?_)
    refine j_wf C (fun hw => ?_)
    refine j_iload_n C dX5_begin_7 rfl ?_
    refine j_bipush C dX5_begin_8 (by decide +kernel) ?_
    refine j_icmp_ge C (tgt := 33) dX5_begin_10 (by decide) (by first | omega | (refine ⟨?_, ?_⟩ <;> omega) | exact hw _ _ | exact nrm_R _) (by first | omega | (refine ⟨?_, ?_⟩ <;> omega) | exact hw _ _ | exact nrm_R _) (fun c_10 => ?_) (fun c_10 => ?_)
    · refine j_vretV C dX5_begin_33 (fun hw9 => ?_)
      show _ = _
      rw [show i.toNat = 64 by omega]
      rfl
    · refine j_aload_n C dX5_begin_13 rfl ?_
      refine j_getR C fX5_begin_27 rfl rfl dX5_begin_14 ?_
      refine j_iload_n C dX5_begin_17 rfl ?_
      refine j_iload_n C dX5_begin_18 rfl ?_
      refine j_iastore C rfl (by decide) dX5_begin_19 (by first | omega | (refine ⟨?_, ?_⟩ <;> omega) | exact hw _ _ | exact nrm_R _) (by first | omega | (refine ⟨?_, ?_⟩ <;> omega) | exact hw _ _ | exact nrm_R _) (by first | omega | (refine ⟨?_, ?_⟩ <;> omega) | exact hw _ _ | exact nrm_R _) ?_
      refine j_aload_n C dX5_begin_20 rfl ?_
      refine j_getR C fX5_begin_30 rfl rfl dX5_begin_21 ?_
      refine j_iload_n C dX5_begin_24 rfl ?_
      refine j_iconst C dX5_begin_25 ?_
      refine j_iastore C rfl (by decide) dX5_begin_26 (by first | omega | (refine ⟨?_, ?_⟩ <;> omega) | exact hw _ _ | exact nrm_R _) (by first | omega | (refine ⟨?_, ?_⟩ <;> omega) | exact hw _ _ | exact nrm_R _) (by first | omega | (refine ⟨?_, ?_⟩ <;> omega) | exact hw _ _ | exact nrm_R _) ?_
      refine j_iinc C dX5_begin_27 rfl ?_
      dsimp only [List.set]
      refine j_goto C (tgt := 7) dX5_begin_30 (by decide) ?_
      refine j_cast (ih _ (by omega) (i + 1) rfl (by omega) (by omega)) rfl rfl ?_
      rw [show (i + 1).toNat = i.toNat + 1 by omega, fillU_s, fillU_s]
      have e1 : ((i.toNat : Nat) : Int) = i := by omega
      funext k' j
      by_cases a6 : k' = 27
      · subst a6
        simp [row, aset]
      · by_cases a5 : k' = 26
        · subst a5
          simp [row, aset, e1]
        · simp [row, aset, a6, a5]
  refine j_aload_n C dX5_begin_0 rfl ?_
  refine j_iconst C dX5_begin_1 ?_
  refine j_putI C pX5_begin_79 rfl rfl (by first | omega | (refine ⟨?_, ?_⟩ <;> omega) | exact hw _ _ | exact nrm_R _) (by intro h; cases h) dX5_begin_2 ?_
  refine j_iconst C dX5_begin_5 ?_
  refine j_istore_n C dX5_begin_6 (Nat.le_of_ble_eq_true rfl) ?_
  dsimp only [List.set]
  refine j_cast (lp _ 0 rfl (by omega) (by omega)) rfl rfl ?_
  rw [show (0 : Int).toNat = 0 from rfl, fillU_0, fillU_0]
  funext k' j
  by_cases a6 : k' = 27
  · subst a6
    simp [row, aset]
  · by_cases a5 : k' = 26
    · subst a5
      simp [row, aset]
    · simp [row, aset, a6, a5]
set_option maxHeartbeats 4000000 in
set_option maxRecDepth 100000 in
theorem ct_X0_knotOfTime {t : Int} {g : AG} : MetI yX0_knotOfTime wsX0_knotOfTime rmX0_knotOfTime ShW [.inl t] g (fun x g' => g' = g ∧ x = 24 + t) := by
  refine metI_of (cc := cX0_knotOfTime) (nL := 1) false (by decide +kernel) rfl (Nat.le_of_ble_eq_true rfl) (fun q J C => ?_)
  show J q ShW 0 0 0 [some (.inl t)] [] g
  refine j_wf C (fun hw => ?_)
  refine j_bipush C dX0_knotOfTime_0 (by decide +kernel) ?_
  refine j_iload_n C dX0_knotOfTime_2 rfl ?_
  refine j_iadd C dX0_knotOfTime_3 ?_
  refine j_iretI C dX0_knotOfTime_4 (by intro h; cases h) (fun hw9 => ?_)
  exact ⟨rfl, rfl⟩
set_option maxHeartbeats 4000000 in
set_option maxRecDepth 100000 in
theorem ct_X0_count {g : AG} : MetI yX0_count wsX0_count rmX0_count ShW [.inr 1] g (fun x g' => g' = g ∧ x = g 1 4) := by
  refine metI_of (cc := cX0_count) (nL := 1) false (by decide +kernel) rfl (Nat.le_of_ble_eq_true rfl) (fun q J C => ?_)
  show J q ShW 0 0 0 [some (.inr 1)] [] g
  refine j_wf C (fun hw => ?_)
  refine j_aload_n C dX0_count_0 rfl ?_
  refine j_getI C fX0_count_34 rfl rfl dX0_count_1 ?_
  refine j_iretI C dX0_count_4 (by intro h; cases h) (fun hw9 => ?_)
  exact ⟨rfl, rfl⟩
set_option maxHeartbeats 4000000 in
set_option maxRecDepth 100000 in
theorem ct_X0_fittingCount {g : AG} : MetI yX0_fittingCount wsX0_fittingCount rmX0_fittingCount ShW [.inr 1] g (fun x g' => g' = g ∧ x = g 1 5) := by
  refine metI_of (cc := cX0_fittingCount) (nL := 1) false (by decide +kernel) rfl (Nat.le_of_ble_eq_true rfl) (fun q J C => ?_)
  show J q ShW 0 0 0 [some (.inr 1)] [] g
  refine j_wf C (fun hw => ?_)
  refine j_aload_n C dX0_fittingCount_0 rfl ?_
  refine j_getI C fX0_fittingCount_38 rfl rfl dX0_fittingCount_1 ?_
  refine j_iretI C dX0_fittingCount_4 (by intro h; cases h) (fun hw9 => ?_)
  exact ⟨rfl, rfl⟩
set_option maxHeartbeats 4000000 in
set_option maxRecDepth 100000 in
theorem ct_X0_timeOf {i : Int} {g : AG} (h : 0 ≤ i ∧ i < 100) : MetI yX0_timeOf wsX0_timeOf rmX0_timeOf ShW [.inr 1, .inl i] g (fun x g' => g' = g ∧ x = g 2 i.toNat) := by
  refine metI_of (cc := cX0_timeOf) (nL := 2) false (by decide +kernel) rfl (Nat.le_of_ble_eq_true rfl) (fun q J C => ?_)
  show J q ShW 0 0 0 [some (.inr 1), some (.inl i)] [] g
  refine j_wf C (fun hw => ?_)
  refine j_aload_n C dX0_timeOf_0 rfl ?_
  refine j_getR C fX0_timeOf_9 rfl rfl dX0_timeOf_1 ?_
  refine j_iload_n C dX0_timeOf_4 rfl ?_
  refine j_iaload C rfl (by decide) dX0_timeOf_5 (by first | omega | (refine ⟨?_, ?_⟩ <;> omega) | exact hw _ _ | exact nrm_R _) (by first | omega | (refine ⟨?_, ?_⟩ <;> omega) | exact hw _ _ | exact nrm_R _) ?_
  refine j_iretI C dX0_timeOf_6 (by intro h; cases h) (fun hw9 => ?_)
  exact ⟨rfl, rfl⟩
set_option maxHeartbeats 4000000 in
set_option maxRecDepth 100000 in
theorem ct_X0_placeOf {i : Int} {g : AG} (h : 0 ≤ i ∧ i < 100) : MetI yX0_placeOf wsX0_placeOf rmX0_placeOf ShW [.inr 1, .inl i] g (fun x g' => g' = g ∧ x = g 3 i.toNat) := by
  refine metI_of (cc := cX0_placeOf) (nL := 2) false (by decide +kernel) rfl (Nat.le_of_ble_eq_true rfl) (fun q J C => ?_)
  show J q ShW 0 0 0 [some (.inr 1), some (.inl i)] [] g
  refine j_wf C (fun hw => ?_)
  refine j_aload_n C dX0_placeOf_0 rfl ?_
  refine j_getR C fX0_placeOf_15 rfl rfl dX0_placeOf_1 ?_
  refine j_iload_n C dX0_placeOf_4 rfl ?_
  refine j_iaload C rfl (by decide) dX0_placeOf_5 (by first | omega | (refine ⟨?_, ?_⟩ <;> omega) | exact hw _ _ | exact nrm_R _) (by first | omega | (refine ⟨?_, ?_⟩ <;> omega) | exact hw _ _ | exact nrm_R _) ?_
  refine j_iretI C dX0_placeOf_6 (by intro h; cases h) (fun hw9 => ?_)
  exact ⟨rfl, rfl⟩
set_option maxHeartbeats 4000000 in
set_option maxRecDepth 100000 in
theorem ct_X0_valueOf {i : Int} {g : AG} (h : 0 ≤ i ∧ i < 100) : MetI yX0_valueOf wsX0_valueOf rmX0_valueOf ShW [.inr 1, .inl i] g (fun x g' => g' = g ∧ x = g 4 i.toNat) := by
  refine metI_of (cc := cX0_valueOf) (nL := 2) false (by decide +kernel) rfl (Nat.le_of_ble_eq_true rfl) (fun q J C => ?_)
  show J q ShW 0 0 0 [some (.inr 1), some (.inl i)] [] g
  refine j_wf C (fun hw => ?_)
  refine j_aload_n C dX0_valueOf_0 rfl ?_
  refine j_getR C fX0_valueOf_18 rfl rfl dX0_valueOf_1 ?_
  refine j_iload_n C dX0_valueOf_4 rfl ?_
  refine j_iaload C rfl (by decide) dX0_valueOf_5 (by first | omega | (refine ⟨?_, ?_⟩ <;> omega) | exact hw _ _ | exact nrm_R _) (by first | omega | (refine ⟨?_, ?_⟩ <;> omega) | exact hw _ _ | exact nrm_R _) ?_
  refine j_iretI C dX0_valueOf_6 (by intro h; cases h) (fun hw9 => ?_)
  exact ⟨rfl, rfl⟩
set_option maxHeartbeats 4000000 in
set_option maxRecDepth 100000 in
theorem ct_X0_isFitting {i : Int} {g : AG} (h : 0 ≤ i ∧ i < 100 ∧ (g 5 i.toNat = 0 ∨ g 5 i.toNat = 1)) : MetI yX0_isFitting wsX0_isFitting rmX0_isFitting ShW [.inr 1, .inl i] g (fun x g' => g' = g ∧ x = g 5 i.toNat) := by
  refine metI_of (cc := cX0_isFitting) (nL := 2) true (by decide +kernel) rfl (Nat.le_of_ble_eq_true rfl) (fun q J C => ?_)
  show J q ShW 0 0 0 [some (.inr 1), some (.inl i)] [] g
  refine j_wf C (fun hw => ?_)
  obtain ⟨h1, h2, h3⟩ := h
  refine j_aload_n C dX0_isFitting_0 rfl ?_
  refine j_getR C fX0_isFitting_21 rfl rfl dX0_isFitting_1 ?_
  refine j_iload_n C dX0_isFitting_4 rfl ?_
  refine j_baload C rfl (by decide) dX0_isFitting_5 (by first | omega | (refine ⟨?_, ?_⟩ <;> omega) | exact hw _ _ | exact nrm_R _) (by first | omega | (refine ⟨?_, ?_⟩ <;> omega) | exact hw _ _ | exact nrm_R _) ?_
  refine j_iretI C dX0_isFitting_6 (fun _ => by first | exact Or.inl rfl | exact Or.inr rfl | assumption | omega) (fun hw9 => ?_)
  exact ⟨rfl, rfl⟩
set_option maxHeartbeats 4000000 in
set_option maxRecDepth 100000 in
theorem ct_X0_hasAcross {p : Int} {g : AG} (h : 0 ≤ p ∧ p < 24) : MetI yX0_hasAcross wsX0_hasAcross rmX0_hasAcross ShW [.inr 1, .inl p] g (fun x g' => g' = g ∧ (x = 0 ∨ x = 1) ∧ (x = 1 ↔ g 6 p.toNat = g 6 0)) := by
  refine metI_of (cc := cX0_hasAcross) (nL := 2) true (by decide +kernel) rfl (Nat.le_of_ble_eq_true rfl) (fun q J C => ?_)
  show J q ShW 0 0 0 [some (.inr 1), some (.inl p)] [] g
  refine j_wf C (fun hw => ?_)
  refine j_aload_n C dX0_hasAcross_0 rfl ?_
  refine j_getR C fX0_hasAcross_25 rfl rfl dX0_hasAcross_1 ?_
  refine j_iload_n C dX0_hasAcross_4 rfl ?_
  refine j_iaload C rfl (by decide) dX0_hasAcross_5 (by first | omega | (refine ⟨?_, ?_⟩ <;> omega) | exact hw _ _ | exact nrm_R _) (by first | omega | (refine ⟨?_, ?_⟩ <;> omega) | exact hw _ _ | exact nrm_R _) ?_
  refine j_aload_n C dX0_hasAcross_6 rfl ?_
  refine j_getR C fX0_hasAcross_25 rfl rfl dX0_hasAcross_7 ?_
  refine j_iconst C dX0_hasAcross_10 ?_
  refine j_iaload C rfl (by decide) dX0_hasAcross_11 (by first | omega | (refine ⟨?_, ?_⟩ <;> omega) | exact hw _ _ | exact nrm_R _) (by first | omega | (refine ⟨?_, ?_⟩ <;> omega) | exact hw _ _ | exact nrm_R _) ?_
  refine j_icmp_ne C (tgt := 19) dX0_hasAcross_12 (by decide) (by first | omega | (refine ⟨?_, ?_⟩ <;> omega) | exact hw _ _ | exact nrm_R _) (by first | omega | (refine ⟨?_, ?_⟩ <;> omega) | exact hw _ _ | exact nrm_R _) (fun c_12 => ?_) (fun c_12 => ?_)
  · refine j_iconst C dX0_hasAcross_19 ?_
    refine j_iretI C dX0_hasAcross_20 (fun _ => by first | exact Or.inl rfl | exact Or.inr rfl | assumption | omega) (fun hw9 => ?_)
    first | exact ⟨rfl, Or.inr rfl, fun _ => c_12, fun _ => rfl⟩ | exact ⟨rfl, Or.inl rfl, fun h => absurd h (by decide), fun h => absurd h c_12⟩
  · refine j_iconst C dX0_hasAcross_15 ?_
    refine j_goto C (tgt := 20) dX0_hasAcross_16 (by decide) ?_
    refine j_iretI C dX0_hasAcross_20 (fun _ => by first | exact Or.inl rfl | exact Or.inr rfl | assumption | omega) (fun hw9 => ?_)
    first | exact ⟨rfl, Or.inr rfl, fun _ => c_12, fun _ => rfl⟩ | exact ⟨rfl, Or.inl rfl, fun h => absurd h (by decide), fun h => absurd h c_12⟩
set_option maxHeartbeats 4000000 in
set_option maxRecDepth 100000 in
theorem ct_X0_acrossOf {p : Int} {g : AG} (h : 0 ≤ p ∧ p < 24) : MetI yX0_acrossOf wsX0_acrossOf rmX0_acrossOf ShW [.inr 1, .inl p] g (fun x g' => g' = g ∧ x = nrm (g 7 0 - g 7 p.toNat)) := by
  refine metI_of (cc := cX0_acrossOf) (nL := 2) false (by decide +kernel) rfl (Nat.le_of_ble_eq_true rfl) (fun q J C => ?_)
  show J q ShW 0 0 0 [some (.inr 1), some (.inl p)] [] g
  refine j_wf C (fun hw => ?_)
  refine j_aload_n C dX0_acrossOf_0 rfl ?_
  refine j_getR C fX0_acrossOf_28 rfl rfl dX0_acrossOf_1 ?_
  refine j_iconst C dX0_acrossOf_4 ?_
  refine j_iaload C rfl (by decide) dX0_acrossOf_5 (by first | omega | (refine ⟨?_, ?_⟩ <;> omega) | exact hw _ _ | exact nrm_R _) (by first | omega | (refine ⟨?_, ?_⟩ <;> omega) | exact hw _ _ | exact nrm_R _) ?_
  refine j_aload_n C dX0_acrossOf_6 rfl ?_
  refine j_getR C fX0_acrossOf_28 rfl rfl dX0_acrossOf_7 ?_
  refine j_iload_n C dX0_acrossOf_10 rfl ?_
  refine j_iaload C rfl (by decide) dX0_acrossOf_11 (by first | omega | (refine ⟨?_, ?_⟩ <;> omega) | exact hw _ _ | exact nrm_R _) (by first | omega | (refine ⟨?_, ?_⟩ <;> omega) | exact hw _ _ | exact nrm_R _) ?_
  refine j_isub C dX0_acrossOf_12 ?_
  refine j_nrm C ?_
  refine j_iretI C dX0_acrossOf_13 (by intro h; cases h) (fun hw9 => ?_)
  exact ⟨rfl, rfl⟩
set_option maxHeartbeats 4000000 in
set_option maxRecDepth 100000 in
theorem ct_X0_timesHangTogether {t u : Int} {g : AG} (h : 0 ≤ t ∧ t ≤ 39 ∧ 0 ≤ u ∧ u ≤ 39) : MetI yX0_timesHangTogether wsX0_timesHangTogether rmX0_timesHangTogether ShW [.inr 1, .inl t, .inl u] g (fun x g' => g' = g ∧ (x = 0 ∨ x = 1) ∧ (x = 1 ↔ g 6 (24 + t).toNat = g 6 (24 + u).toNat)) := by
  refine metI_of (cc := cX0_timesHangTogether) (nL := 3) true (by decide +kernel) rfl (Nat.le_of_ble_eq_true rfl) (fun q J C => ?_)
  show J q ShW 0 0 0 [some (.inr 1), some (.inl t), some (.inl u)] [] g
  refine j_wf C (fun hw => ?_)
  refine j_aload_n C dX0_timesHangTogether_0 rfl ?_
  refine j_getR C fX0_timesHangTogether_25 rfl rfl dX0_timesHangTogether_1 ?_
  refine j_iload_n C dX0_timesHangTogether_4 rfl ?_
  refine j_callSi1 C vX0_timesHangTogether_41 rfl (Nat.le_of_ble_eq_true rfl) ⟨Nat.zero_le _, Nat.zero_le _⟩ dX0_timesHangTogether_5 (ct_X0_knotOfTime ) (fun x_5 g_5 hk_5 => ?_)
  obtain ⟨e_5, rfl⟩ := hk_5
  have e_5 := e_5.symm
  subst e_5
  refine j_iaload C rfl (by decide) dX0_timesHangTogether_8 (by first | omega | (refine ⟨?_, ?_⟩ <;> omega) | exact hw _ _ | exact nrm_R _) (by first | omega | (refine ⟨?_, ?_⟩ <;> omega) | exact hw _ _ | exact nrm_R _) ?_
  refine j_aload_n C dX0_timesHangTogether_9 rfl ?_
  refine j_getR C fX0_timesHangTogether_25 rfl rfl dX0_timesHangTogether_10 ?_
  refine j_iload_n C dX0_timesHangTogether_13 rfl ?_
  refine j_callSi1 C vX0_timesHangTogether_41 rfl (Nat.le_of_ble_eq_true rfl) ⟨Nat.zero_le _, Nat.zero_le _⟩ dX0_timesHangTogether_14 (ct_X0_knotOfTime ) (fun x_14 g_14 hk_14 => ?_)
  obtain ⟨e_14, rfl⟩ := hk_14
  have e_14 := e_14.symm
  subst e_14
  refine j_iaload C rfl (by decide) dX0_timesHangTogether_17 (by first | omega | (refine ⟨?_, ?_⟩ <;> omega) | exact hw _ _ | exact nrm_R _) (by first | omega | (refine ⟨?_, ?_⟩ <;> omega) | exact hw _ _ | exact nrm_R _) ?_
  refine j_icmp_ne C (tgt := 25) dX0_timesHangTogether_18 (by decide) (by first | omega | (refine ⟨?_, ?_⟩ <;> omega) | exact hw _ _ | exact nrm_R _) (by first | omega | (refine ⟨?_, ?_⟩ <;> omega) | exact hw _ _ | exact nrm_R _) (fun c_18 => ?_) (fun c_18 => ?_)
  · refine j_iconst C dX0_timesHangTogether_25 ?_
    refine j_iretI C dX0_timesHangTogether_26 (fun _ => by first | exact Or.inl rfl | exact Or.inr rfl | assumption | omega) (fun hw9 => ?_)
    first | exact ⟨rfl, Or.inr rfl, fun _ => c_18, fun _ => rfl⟩ | exact ⟨rfl, Or.inl rfl, fun h => absurd h (by decide), fun h => absurd h c_18⟩
  · refine j_iconst C dX0_timesHangTogether_21 ?_
    refine j_goto C (tgt := 26) dX0_timesHangTogether_22 (by decide) ?_
    refine j_iretI C dX0_timesHangTogether_26 (fun _ => by first | exact Or.inl rfl | exact Or.inr rfl | assumption | omega) (fun hw9 => ?_)
    first | exact ⟨rfl, Or.inr rfl, fun _ => c_18, fun _ => rfl⟩ | exact ⟨rfl, Or.inl rfl, fun h => absurd h (by decide), fun h => absurd h c_18⟩
set_option maxHeartbeats 4000000 in
set_option maxRecDepth 100000 in
theorem ct_X0_moreAlong {t u : Int} {g : AG} (h : 0 ≤ t ∧ t ≤ 39 ∧ 0 ≤ u ∧ u ≤ 39) : MetI yX0_moreAlong wsX0_moreAlong rmX0_moreAlong ShW [.inr 1, .inl t, .inl u] g (fun x g' => g' = g ∧ x = nrm (g 7 (24 + t).toNat - g 7 (24 + u).toNat)) := by
  refine metI_of (cc := cX0_moreAlong) (nL := 3) false (by decide +kernel) rfl (Nat.le_of_ble_eq_true rfl) (fun q J C => ?_)
  show J q ShW 0 0 0 [some (.inr 1), some (.inl t), some (.inl u)] [] g
  refine j_wf C (fun hw => ?_)
  refine j_aload_n C dX0_moreAlong_0 rfl ?_
  refine j_getR C fX0_moreAlong_28 rfl rfl dX0_moreAlong_1 ?_
  refine j_iload_n C dX0_moreAlong_4 rfl ?_
  refine j_callSi1 C vX0_moreAlong_41 rfl (Nat.le_of_ble_eq_true rfl) ⟨Nat.zero_le _, Nat.zero_le _⟩ dX0_moreAlong_5 (ct_X0_knotOfTime ) (fun x_5 g_5 hk_5 => ?_)
  obtain ⟨e_5, rfl⟩ := hk_5
  have e_5 := e_5.symm
  subst e_5
  refine j_iaload C rfl (by decide) dX0_moreAlong_8 (by first | omega | (refine ⟨?_, ?_⟩ <;> omega) | exact hw _ _ | exact nrm_R _) (by first | omega | (refine ⟨?_, ?_⟩ <;> omega) | exact hw _ _ | exact nrm_R _) ?_
  refine j_aload_n C dX0_moreAlong_9 rfl ?_
  refine j_getR C fX0_moreAlong_28 rfl rfl dX0_moreAlong_10 ?_
  refine j_iload_n C dX0_moreAlong_13 rfl ?_
  refine j_callSi1 C vX0_moreAlong_41 rfl (Nat.le_of_ble_eq_true rfl) ⟨Nat.zero_le _, Nat.zero_le _⟩ dX0_moreAlong_14 (ct_X0_knotOfTime ) (fun x_14 g_14 hk_14 => ?_)
  obtain ⟨e_14, rfl⟩ := hk_14
  have e_14 := e_14.symm
  subst e_14
  refine j_iaload C rfl (by decide) dX0_moreAlong_17 (by first | omega | (refine ⟨?_, ?_⟩ <;> omega) | exact hw _ _ | exact nrm_R _) (by first | omega | (refine ⟨?_, ?_⟩ <;> omega) | exact hw _ _ | exact nrm_R _) ?_
  refine j_isub C dX0_moreAlong_18 ?_
  refine j_nrm C ?_
  refine j_iretI C dX0_moreAlong_19 (by intro h; cases h) (fun hw9 => ?_)
  exact ⟨rfl, rfl⟩
set_option maxHeartbeats 4000000 in
set_option maxRecDepth 100000 in
theorem ct_X0_isFirstOfGroup {p : Int} {g : AG} (h : 0 ≤ p ∧ p < 24) : MetI yX0_isFirstOfGroup wsX0_isFirstOfGroup rmX0_isFirstOfGroup ShW [.inr 1, .inl p] g (fun x g' => g' = g ∧ (x = 0 ∨ x = 1) ∧ (x = 1 ↔ fst1 (g 6) p.toNat)) := by
  refine metI_of (cc := cX0_isFirstOfGroup) (nL := 3) true (by decide +kernel) rfl (Nat.le_of_ble_eq_true rfl) (fun q J C => ?_)
  show J q ShW 0 0 0 [some (.inr 1), some (.inl p), none] [] g
  refine j_wf C (fun hw => ?_)
  have lp : ∀ n : Nat, ∀ (i : Int), (p - i).toNat = n → 0 ≤ i → i ≤ p → (∀ j, j < i.toNat → g 6 j ≠ g 6 p.toNat) → J q ShW 0 0 2 [some (.inr 1), some (.inl p), some (.inl i)] [] g := by
    refine byN _ (fun n ih i hn h0 h1 hf => ?_)
    refine j_iload_n C dX0_isFirstOfGroup_2 rfl ?_
    refine j_iload_n C dX0_isFirstOfGroup_3 rfl ?_
    refine j_icmp_ge C (tgt := 30) dX0_isFirstOfGroup_4 (by decide) (by first | omega | (refine ⟨?_, ?_⟩ <;> omega) | exact hw _ _ | exact nrm_R _) (by first | omega | (refine ⟨?_, ?_⟩ <;> omega) | exact hw _ _ | exact nrm_R _) (fun c_4 => ?_) (fun c_4 => ?_)
    · refine j_iconst C dX0_isFirstOfGroup_30 ?_
      refine j_iretI C dX0_isFirstOfGroup_31 (fun _ => by first | exact Or.inl rfl | exact Or.inr rfl | assumption | omega) (fun hw9 => ?_)
      refine ⟨rfl, Or.inr rfl, fun _ => ?_, fun _ => rfl⟩
      rw [show p.toNat = i.toNat by omega] at hf ⊢
      exact hf
    · refine j_aload_n C dX0_isFirstOfGroup_7 rfl ?_
      refine j_getR C fX0_isFirstOfGroup_25 rfl rfl dX0_isFirstOfGroup_8 ?_
      refine j_iload_n C dX0_isFirstOfGroup_11 rfl ?_
      refine j_iaload C rfl (by decide) dX0_isFirstOfGroup_12 (by first | omega | (refine ⟨?_, ?_⟩ <;> omega) | exact hw _ _ | exact nrm_R _) (by first | omega | (refine ⟨?_, ?_⟩ <;> omega) | exact hw _ _ | exact nrm_R _) ?_
      refine j_aload_n C dX0_isFirstOfGroup_13 rfl ?_
      refine j_getR C fX0_isFirstOfGroup_25 rfl rfl dX0_isFirstOfGroup_14 ?_
      refine j_iload_n C dX0_isFirstOfGroup_17 rfl ?_
      refine j_iaload C rfl (by decide) dX0_isFirstOfGroup_18 (by first | omega | (refine ⟨?_, ?_⟩ <;> omega) | exact hw _ _ | exact nrm_R _) (by first | omega | (refine ⟨?_, ?_⟩ <;> omega) | exact hw _ _ | exact nrm_R _) ?_
      refine j_icmp_ne C (tgt := 24) dX0_isFirstOfGroup_19 (by decide) (by first | omega | (refine ⟨?_, ?_⟩ <;> omega) | exact hw _ _ | exact nrm_R _) (by first | omega | (refine ⟨?_, ?_⟩ <;> omega) | exact hw _ _ | exact nrm_R _) (fun c_19 => ?_) (fun c_19 => ?_)
      · refine j_iinc C dX0_isFirstOfGroup_24 rfl ?_
        dsimp only [List.set]
        refine j_goto C (tgt := 2) dX0_isFirstOfGroup_27 (by decide) ?_
        refine ih _ (by omega) (i + 1) rfl (by omega) (by omega) (fun j hj => ?_)
        by_cases hji : j = i.toNat
        · subst hji
          exact c_19
        · exact hf j (by omega)
      · refine j_iconst C dX0_isFirstOfGroup_22 ?_
        refine j_iretI C dX0_isFirstOfGroup_23 (fun _ => by first | exact Or.inl rfl | exact Or.inr rfl | assumption | omega) (fun hw9 => ?_)
        exact ⟨rfl, Or.inl rfl, fun h => absurd h (by decide), fun h => absurd c_19 (h i.toNat (by omega))⟩
  refine j_iconst C dX0_isFirstOfGroup_0 ?_
  refine j_istore_n C dX0_isFirstOfGroup_1 (Nat.le_of_ble_eq_true rfl) ?_
  dsimp only [List.set]
  exact lp _ 0 rfl (by omega) (by omega) (fun j hj => absurd hj (by simp))
set_option maxHeartbeats 4000000 in
set_option maxRecDepth 100000 in
theorem ct_X0_countGroups {n : Int} {g : AG} (h : 0 ≤ n ∧ n ≤ 24) : MetI yX0_countGroups wsX0_countGroups rmX0_countGroups ShW [.inr 1, .inl n] g (fun x g' => g' = g ∧ x = cntG (g 6) n.toNat) := by
  refine metI_of (cc := cX0_countGroups) (nL := 4) false (by decide +kernel) rfl (Nat.le_of_ble_eq_true rfl) (fun q J C => ?_)
  show J q ShW 0 0 0 [some (.inr 1), some (.inl n), none, none] [] g
  refine j_wf C (fun hw => ?_)
  have lp : ∀ k : Nat, ∀ (i : Int), (n - i).toNat = k → 0 ≤ i → i ≤ n → J q ShW 0 0 4 [some (.inr 1), some (.inl n), some (.inl (cntG (g 6) i.toNat)), some (.inl i)] [] g := by
    refine byN _ (fun k ih i hn h0 h1 => ?_)
    have hc := cntG_b (g 6) i.toNat
    refine j_iload_n C dX0_countGroups_4 rfl ?_
    refine j_iload_n C dX0_countGroups_5 rfl ?_
    refine j_icmp_ge C (tgt := 26) dX0_countGroups_6 (by decide) (by first | omega | (refine ⟨?_, ?_⟩ <;> omega) | exact hw _ _ | exact nrm_R _) (by first | omega | (refine ⟨?_, ?_⟩ <;> omega) | exact hw _ _ | exact nrm_R _) (fun c_6 => ?_) (fun c_6 => ?_)
    · refine j_iload_n C dX0_countGroups_26 rfl ?_
      refine j_iretI C dX0_countGroups_27 (by intro h; cases h) (fun hw9 => ?_)
      exact ⟨rfl, by rw [show i.toNat = n.toNat by omega]⟩
    · refine j_aload_n C dX0_countGroups_9 rfl ?_
      refine j_iload_n C dX0_countGroups_10 rfl ?_
      refine j_callVi1 C vX0_countGroups_49 rfl rfl (Nat.le_of_ble_eq_true rfl) ⟨Nat.zero_le _, Nat.zero_le _⟩ dX0_countGroups_11 (ct_X0_isFirstOfGroup (by first | omega | (refine ⟨?_, ?_⟩ <;> omega) | exact hw _ _ | exact nrm_R _)) (fun x_11 g_11 hk_11 => ?_)
      obtain ⟨e_11, hb_11, hi_11⟩ := hk_11
      have e_11 := e_11.symm
      subst e_11
      refine j_if_eq C (tgt := 20) dX0_countGroups_14 (by decide) (by first | omega | (refine ⟨?_, ?_⟩ <;> omega) | exact hw _ _ | exact nrm_R _) (fun c_14 => ?_) (fun c_14 => ?_)
      · refine j_iinc C dX0_countGroups_20 rfl ?_
        dsimp only [List.set]
        refine j_goto C (tgt := 4) dX0_countGroups_23 (by decide) ?_
        refine j_cast (ih _ (by omega) (i + 1) rfl (by omega) (by omega)) ?_ rfl rfl
        rw [show (i + 1).toNat = i.toNat + 1 by omega, cntG]
        by_cases hf : fst1 (g 6) i.toNat
        · rw [if_pos hf]
          all_goals first | rfl | exact absurd (hi_11.mpr hf) (by omega)
        · rw [if_neg hf, Int.add_zero]
          all_goals first | rfl | exact absurd (hi_11.mp (by omega)) hf
      · refine j_iinc C dX0_countGroups_17 rfl ?_
        dsimp only [List.set]
        refine j_iinc C dX0_countGroups_20 rfl ?_
        dsimp only [List.set]
        refine j_goto C (tgt := 4) dX0_countGroups_23 (by decide) ?_
        refine j_cast (ih _ (by omega) (i + 1) rfl (by omega) (by omega)) ?_ rfl rfl
        rw [show (i + 1).toNat = i.toNat + 1 by omega, cntG]
        by_cases hf : fst1 (g 6) i.toNat
        · rw [if_pos hf]
          all_goals first | rfl | exact absurd (hi_11.mpr hf) (by omega)
        · rw [if_neg hf, Int.add_zero]
          all_goals first | rfl | exact absurd (hi_11.mp (by omega)) hf
  refine j_iconst C dX0_countGroups_0 ?_
  refine j_istore_n C dX0_countGroups_1 (Nat.le_of_ble_eq_true rfl) ?_
  dsimp only [List.set]
  refine j_iconst C dX0_countGroups_2 ?_
  refine j_istore_n C dX0_countGroups_3 (Nat.le_of_ble_eq_true rfl) ?_
  dsimp only [List.set]
  exact lp _ 0 rfl (by omega) (by omega)
set_option maxHeartbeats 4000000 in
set_option maxRecDepth 100000 in
theorem ct_X0_fit {tk pk v : Int} {g : AG} (h : 0 ≤ tk ∧ tk < 64 ∧ 0 ≤ pk ∧ pk < 64 ∧ aR v) : MetI yX0_fit wsX0_fit rmX0_fit ShW [.inr 1, .inl tk, .inl pk, .inl v] g (fun x g' => (x = 0 ∨ x = 1) ∧ (x = 1 ↔ (g 6 tk.toNat = g 6 pk.toNat → nrm (g 7 tk.toNat - g 7 pk.toNat) = v)) ∧ g' = row (row g 6 (fitU (g 6) tk.toNat pk.toNat 64)) 7 (fitH (g 6) (g 7) tk.toNat pk.toNat v)) := by
  refine metI_of (cc := cX0_fit) (nL := 8) true (by decide +kernel) rfl (Nat.le_of_ble_eq_true rfl) (fun q J C => ?_)
  show J q ShW 0 0 0 [some (.inr 1), some (.inl tk), some (.inl pk), some (.inl v), none, none, none, none] [] g
  refine j_wf C (fun hw => ?_)
  obtain ⟨h1, h2, h3, h4, h5, h6⟩ := h
  have lp : g 6 tk.toNat ≠ g 6 pk.toNat → ∀ n : Nat, ∀ (i : Int), ((64 : Int) - i).toNat = n → 0 ≤ i → i ≤ 64 → J q ShW 0 0 74 [some (.inr 1), some (.inl tk), some (.inl pk), some (.inl v), some (.inl (g 7 tk.toNat - v - g 7 pk.toNat)), some (.inl (g 6 pk.toNat)), some (.inl (g 6 tk.toNat)), some (.inl i)] [] (row (row g 6 (fitU (g 6) tk.toNat pk.toNat i.toNat)) 7 (fitV (g 6) (g 7) tk.toNat pk.toNat v i.toNat)) := by
    intro hne
    refine byN _ (fun n ih i hn h0 h9 => ?_)
    have hwg := hw
    refine j_wf C (fun hw => ?_)
    refine j_iload C dX0_fit_74 rfl ?_
    refine j_bipush C dX0_fit_76 (by decide +kernel) ?_
    refine j_icmp_ge C (tgt := 120) dX0_fit_78 (by decide) (by first | omega | (refine ⟨?_, ?_⟩ <;> omega) | exact hw _ _ | exact hwg _ _ | exact nrm_R _) (by first | omega | (refine ⟨?_, ?_⟩ <;> omega) | exact hw _ _ | exact hwg _ _ | exact nrm_R _) (fun c_78 => ?_) (fun c_78 => ?_)
    · refine j_iconst C dX0_fit_120 ?_
      refine j_iretI C dX0_fit_121 (fun _ => by first | exact Or.inl rfl | exact Or.inr rfl | assumption | omega) (fun hw9 => ?_)
      refine ⟨Or.inr rfl, ⟨fun _ h => absurd h hne, fun _ => rfl⟩, ?_⟩
      rw [show i.toNat = 64 by omega]
      unfold fitH
      rw [if_neg hne]
    · refine j_aload_n C dX0_fit_81 rfl ?_
      refine j_getR C fX0_fit_25 rfl rfl dX0_fit_82 ?_
      refine j_iload C dX0_fit_85 rfl ?_
      refine j_iaload C rfl (by decide) dX0_fit_87 (by first | omega | (refine ⟨?_, ?_⟩ <;> omega) | exact hw _ _ | exact hwg _ _ | exact nrm_R _) (by first | omega | (refine ⟨?_, ?_⟩ <;> omega) | exact hw _ _ | exact hwg _ _ | exact nrm_R _) ?_
      refine j_iload C dX0_fit_88 rfl ?_
      refine j_icmp_ne C (tgt := 114) dX0_fit_90 (by decide) (by first | omega | (refine ⟨?_, ?_⟩ <;> omega) | exact hw _ _ | exact hwg _ _ | exact nrm_R _) (by first | omega | (refine ⟨?_, ?_⟩ <;> omega) | exact hw _ _ | exact hwg _ _ | exact nrm_R _) (fun c_90 => ?_) (fun c_90 => ?_)
      · refine j_iinc C dX0_fit_114 rfl ?_
        dsimp only [List.set]
        refine j_goto C (tgt := 74) dX0_fit_117 (by decide) ?_
        have e1 : (row (row g 6 (fitU (g 6) tk.toNat pk.toNat i.toNat)) 7 (fitV (g 6) (g 7) tk.toNat pk.toNat v i.toNat)) 6 i.toNat = _ := congrFun (row_n _ _ (by decide)) _
        rw [e1, row_s, fitU_at] at c_90
        refine j_cast (ih _ (by omega) (i + 1) rfl (by omega) (by omega)) rfl rfl ?_
        rw [show (i + 1).toNat = i.toNat + 1 by omega]
        first
        | (rw [fitU_n c_90, fitV_n c_90]; done)
        | (rw [fitU_y c_90, fitV_y c_90]
           funext k' j
           by_cases a7 : k' = 7
           · subst a7
             simp [row, aset, fitV_at]
           · by_cases a6 : k' = 6
             · subst a6
               simp [row, aset]
             · simp [row, aset, a7, a6])
      · refine j_aload_n C dX0_fit_93 rfl ?_
        refine j_getR C fX0_fit_25 rfl rfl dX0_fit_94 ?_
        refine j_iload C dX0_fit_97 rfl ?_
        refine j_iload C dX0_fit_99 rfl ?_
        refine j_iastore C rfl (by decide) dX0_fit_101 (by first | omega | (refine ⟨?_, ?_⟩ <;> omega) | exact hw _ _ | exact hwg _ _ | exact nrm_R _) (by first | omega | (refine ⟨?_, ?_⟩ <;> omega) | exact hw _ _ | exact hwg _ _ | exact nrm_R _) (by first | omega | (refine ⟨?_, ?_⟩ <;> omega) | exact hw _ _ | exact hwg _ _ | exact nrm_R _) ?_
        refine j_aload_n C dX0_fit_102 rfl ?_
        refine j_getR C fX0_fit_28 rfl rfl dX0_fit_103 ?_
        refine j_iload C dX0_fit_106 rfl ?_
        refine j_dup2 C dX0_fit_108 ?_
        refine j_iaload C rfl (by decide) dX0_fit_109 (by first | omega | (refine ⟨?_, ?_⟩ <;> omega) | exact hw _ _ | exact hwg _ _ | exact nrm_R _) (by first | omega | (refine ⟨?_, ?_⟩ <;> omega) | exact hw _ _ | exact hwg _ _ | exact nrm_R _) ?_
        refine j_iload C dX0_fit_110 rfl ?_
        refine j_iadd C dX0_fit_112 ?_
        refine j_nrm C ?_
        refine j_iastore C rfl (by decide) dX0_fit_113 (by first | omega | (refine ⟨?_, ?_⟩ <;> omega) | exact hw _ _ | exact hwg _ _ | exact nrm_R _) (by first | omega | (refine ⟨?_, ?_⟩ <;> omega) | exact hw _ _ | exact hwg _ _ | exact nrm_R _) (by first | omega | (refine ⟨?_, ?_⟩ <;> omega) | exact hw _ _ | exact hwg _ _ | exact nrm_R _) ?_
        refine j_iinc C dX0_fit_114 rfl ?_
        dsimp only [List.set]
        refine j_goto C (tgt := 74) dX0_fit_117 (by decide) ?_
        have e1 : (row (row g 6 (fitU (g 6) tk.toNat pk.toNat i.toNat)) 7 (fitV (g 6) (g 7) tk.toNat pk.toNat v i.toNat)) 6 i.toNat = _ := congrFun (row_n _ _ (by decide)) _
        rw [e1, row_s, fitU_at] at c_90
        refine j_cast (ih _ (by omega) (i + 1) rfl (by omega) (by omega)) rfl rfl ?_
        rw [show (i + 1).toNat = i.toNat + 1 by omega]
        first
        | (rw [fitU_n c_90, fitV_n c_90]; done)
        | (rw [fitU_y c_90, fitV_y c_90]
           funext k' j
           by_cases a7 : k' = 7
           · subst a7
             simp [row, aset, fitV_at]
           · by_cases a6 : k' = 6
             · subst a6
               simp [row, aset]
             · simp [row, aset, a7, a6])
  refine j_aload_n C dX0_fit_0 rfl ?_
  refine j_getR C fX0_fit_25 rfl rfl dX0_fit_1 ?_
  refine j_iload_n C dX0_fit_4 rfl ?_
  refine j_iaload C rfl (by decide) dX0_fit_5 (by first | omega | (refine ⟨?_, ?_⟩ <;> omega) | exact hw _ _ | exact nrm_R _) (by first | omega | (refine ⟨?_, ?_⟩ <;> omega) | exact hw _ _ | exact nrm_R _) ?_
  refine j_aload_n C dX0_fit_6 rfl ?_
  refine j_getR C fX0_fit_25 rfl rfl dX0_fit_7 ?_
  refine j_iload_n C dX0_fit_10 rfl ?_
  refine j_iaload C rfl (by decide) dX0_fit_11 (by first | omega | (refine ⟨?_, ?_⟩ <;> omega) | exact hw _ _ | exact nrm_R _) (by first | omega | (refine ⟨?_, ?_⟩ <;> omega) | exact hw _ _ | exact nrm_R _) ?_
  refine j_icmp_ne C (tgt := 38) dX0_fit_12 (by decide) (by first | omega | (refine ⟨?_, ?_⟩ <;> omega) | exact hw _ _ | exact nrm_R _) (by first | omega | (refine ⟨?_, ?_⟩ <;> omega) | exact hw _ _ | exact nrm_R _) (fun c_12 => ?_) (fun c_12 => ?_)
  · refine j_aload_n C dX0_fit_38 rfl ?_
    refine j_getR C fX0_fit_28 rfl rfl dX0_fit_39 ?_
    refine j_iload_n C dX0_fit_42 rfl ?_
    refine j_iaload C rfl (by decide) dX0_fit_43 (by first | omega | (refine ⟨?_, ?_⟩ <;> omega) | exact hw _ _ | exact nrm_R _) (by first | omega | (refine ⟨?_, ?_⟩ <;> omega) | exact hw _ _ | exact nrm_R _) ?_
    refine j_iload_n C dX0_fit_44 rfl ?_
    refine j_isub C dX0_fit_45 ?_
    refine j_aload_n C dX0_fit_46 rfl ?_
    refine j_getR C fX0_fit_28 rfl rfl dX0_fit_47 ?_
    refine j_iload_n C dX0_fit_50 rfl ?_
    refine j_iaload C rfl (by decide) dX0_fit_51 (by first | omega | (refine ⟨?_, ?_⟩ <;> omega) | exact hw _ _ | exact nrm_R _) (by first | omega | (refine ⟨?_, ?_⟩ <;> omega) | exact hw _ _ | exact nrm_R _) ?_
    refine j_isub C dX0_fit_52 ?_
    refine j_istore C dX0_fit_53 (Nat.le_of_ble_eq_true rfl) ?_
    dsimp only [List.set]
    refine j_aload_n C dX0_fit_55 rfl ?_
    refine j_getR C fX0_fit_25 rfl rfl dX0_fit_56 ?_
    refine j_iload_n C dX0_fit_59 rfl ?_
    refine j_iaload C rfl (by decide) dX0_fit_60 (by first | omega | (refine ⟨?_, ?_⟩ <;> omega) | exact hw _ _ | exact nrm_R _) (by first | omega | (refine ⟨?_, ?_⟩ <;> omega) | exact hw _ _ | exact nrm_R _) ?_
    refine j_istore C dX0_fit_61 (Nat.le_of_ble_eq_true rfl) ?_
    dsimp only [List.set]
    refine j_aload_n C dX0_fit_63 rfl ?_
    refine j_getR C fX0_fit_25 rfl rfl dX0_fit_64 ?_
    refine j_iload_n C dX0_fit_67 rfl ?_
    refine j_iaload C rfl (by decide) dX0_fit_68 (by first | omega | (refine ⟨?_, ?_⟩ <;> omega) | exact hw _ _ | exact nrm_R _) (by first | omega | (refine ⟨?_, ?_⟩ <;> omega) | exact hw _ _ | exact nrm_R _) ?_
    refine j_istore C dX0_fit_69 (Nat.le_of_ble_eq_true rfl) ?_
    dsimp only [List.set]
    refine j_iconst C dX0_fit_71 ?_
    refine j_istore C dX0_fit_72 (Nat.le_of_ble_eq_true rfl) ?_
    dsimp only [List.set]
    refine j_cast (lp c_12 _ 0 rfl (by omega) (by omega)) rfl rfl ?_
    rw [show (0 : Int).toNat = 0 from rfl, fitU_0, fitV_0, row_id, row_id]
  · refine j_aload_n C dX0_fit_15 rfl ?_
    refine j_getR C fX0_fit_28 rfl rfl dX0_fit_16 ?_
    refine j_iload_n C dX0_fit_19 rfl ?_
    refine j_iaload C rfl (by decide) dX0_fit_20 (by first | omega | (refine ⟨?_, ?_⟩ <;> omega) | exact hw _ _ | exact nrm_R _) (by first | omega | (refine ⟨?_, ?_⟩ <;> omega) | exact hw _ _ | exact nrm_R _) ?_
    refine j_aload_n C dX0_fit_21 rfl ?_
    refine j_getR C fX0_fit_28 rfl rfl dX0_fit_22 ?_
    refine j_iload_n C dX0_fit_25 rfl ?_
    refine j_iaload C rfl (by decide) dX0_fit_26 (by first | omega | (refine ⟨?_, ?_⟩ <;> omega) | exact hw _ _ | exact nrm_R _) (by first | omega | (refine ⟨?_, ?_⟩ <;> omega) | exact hw _ _ | exact nrm_R _) ?_
    refine j_isub C dX0_fit_27 ?_
    refine j_nrm C ?_
    refine j_iload_n C dX0_fit_28 rfl ?_
    refine j_icmp_ne C (tgt := 36) dX0_fit_29 (by decide) (by first | omega | (refine ⟨?_, ?_⟩ <;> omega) | exact hw _ _ | exact nrm_R _) (by first | omega | (refine ⟨?_, ?_⟩ <;> omega) | exact hw _ _ | exact nrm_R _) (fun c_29 => ?_) (fun c_29 => ?_)
    · refine j_iconst C dX0_fit_36 ?_
      refine j_iretI C dX0_fit_37 (fun _ => by first | exact Or.inl rfl | exact Or.inr rfl | assumption | omega) (fun hw9 => ?_)
      refine ⟨by omega, ?_, ?_⟩
      · first | exact ⟨fun _ _ => c_29, fun _ => rfl⟩ | exact ⟨fun h => absurd h (by decide), fun h => absurd (h c_12) c_29⟩
      · unfold fitH
        rw [if_pos c_12, fitU_same c_12, row_id, row_id]
    · refine j_iconst C dX0_fit_32 ?_
      refine j_goto C (tgt := 37) dX0_fit_33 (by decide) ?_
      refine j_iretI C dX0_fit_37 (fun _ => by first | exact Or.inl rfl | exact Or.inr rfl | assumption | omega) (fun hw9 => ?_)
      refine ⟨by omega, ?_, ?_⟩
      · first | exact ⟨fun _ _ => c_29, fun _ => rfl⟩ | exact ⟨fun h => absurd h (by decide), fun h => absurd (h c_12) c_29⟩
      · unfold fitH
        rw [if_pos c_12, fitU_same c_12, row_id, row_id]
/-- what a reading does to the eye: x says whether it fits -/
def addG (g : AG) (t p v x : Int) : AG :=
  aset (aset (aset (aset (aset (aset (row (row g 6 (fitU (g 6) (24 + t).toNat p.toNat 64)) 7 (fitH (g 6) (g 7) (24 + t).toNat p.toNat v)) 2 (g 1 4).toNat t) 3 (g 1 4).toNat p) 4 (g 1 4).toNat v) 5 (g 1 4).toNat x) 1 4 (g 1 4 + 1)) 1 5 (g 1 5 + x)
def fitP (G H : Nat → Int) (a b : Nat) (v : Int) : Prop := G a = G b → nrm (H a - H b) = v
set_option maxHeartbeats 4000000 in
set_option maxRecDepth 100000 in
theorem ct_X0_add {t p v : Int} {g : AG} (h : 0 ≤ t ∧ t ≤ 39 ∧ 0 ≤ p ∧ p < 24 ∧ aR v ∧ 0 ≤ g 1 4 ∧ g 1 4 < 100 ∧ 0 ≤ g 1 5 ∧ g 1 5 ≤ 100) : MetI yX0_add wsX0_add rmX0_add ShW [.inr 1, .inl t, .inl p, .inl v] g (fun x g' => (x = 0 ∨ x = 1) ∧ (x = 1 ↔ fitP (g 6) (g 7) (24 + t).toNat p.toNat v) ∧ g' = addG g t p v x) := by
  refine metI_of (cc := cX0_add) (nL := 5) true (by decide +kernel) rfl (Nat.le_of_ble_eq_true rfl) (fun q J C => ?_)
  show J q ShW 0 0 0 [some (.inr 1), some (.inl t), some (.inl p), some (.inl v), none] [] g
  refine j_wf C (fun hw => ?_)
  obtain ⟨h1, h2, h3, h4, h5, h6, h7, h8, h9⟩ := h
  refine j_aload_n C dX0_add_0 rfl ?_
  refine j_iload_n C dX0_add_1 rfl ?_
  refine j_callSi1 C vX0_add_41 rfl (Nat.le_of_ble_eq_true rfl) ⟨Nat.zero_le _, Nat.zero_le _⟩ dX0_add_2 (ct_X0_knotOfTime ) (fun x_2 g_2 hk_2 => ?_)
  obtain ⟨e_2, rfl⟩ := hk_2
  have e_2 := e_2.symm
  subst e_2
  refine j_iload_n C dX0_add_5 rfl ?_
  refine j_iload_n C dX0_add_6 rfl ?_
  refine j_callVi3 C vX0_add_45 rfl rfl (Nat.le_of_ble_eq_true rfl) ⟨Nat.zero_le _, Nat.zero_le _⟩ dX0_add_7 (ct_X0_fit ⟨by omega, by omega, by omega, by omega, h5⟩) (fun x_7 g_7 hk_7 => ?_)
  obtain ⟨hb_7, hi_7, rfl⟩ := hk_7
  refine j_istore C dX0_add_10 (Nat.le_of_ble_eq_true rfl) ?_
  dsimp only [List.set]
  refine j_aload_n C dX0_add_12 rfl ?_
  refine j_getR C fX0_add_9 rfl rfl dX0_add_13 ?_
  refine j_aload_n C dX0_add_16 rfl ?_
  refine j_getI C fX0_add_34 rfl rfl dX0_add_17 ?_
  simp only [row_n _ _ (show (1 : Nat) ≠ 7 by decide), row_n _ _ (show (1 : Nat) ≠ 6 by decide), aset_kn _ _ _ (show (1 : Nat) ≠ 2 by decide), aset_kn _ _ _ (show (1 : Nat) ≠ 3 by decide), aset_kn _ _ _ (show (1 : Nat) ≠ 4 by decide), aset_kn _ _ _ (show (1 : Nat) ≠ 5 by decide)]
  refine j_iload_n C dX0_add_20 rfl ?_
  refine j_iastore C rfl (by decide) dX0_add_21 (by first | omega | (refine ⟨?_, ?_⟩ <;> omega) | exact hw _ _ | exact nrm_R _ | (simp [row, aset]; omega) | (simp only [row_n _ _ (show (1 : Nat) ≠ 7 by decide), row_n _ _ (show (1 : Nat) ≠ 6 by decide), aset_kn _ _ _ (show (1 : Nat) ≠ 2 by decide), aset_kn _ _ _ (show (1 : Nat) ≠ 3 by decide), aset_kn _ _ _ (show (1 : Nat) ≠ 4 by decide), aset_kn _ _ _ (show (1 : Nat) ≠ 5 by decide)]; first | omega | (refine ⟨?_, ?_⟩ <;> omega))) (by first | omega | (refine ⟨?_, ?_⟩ <;> omega) | exact hw _ _ | exact nrm_R _ | (simp [row, aset]; omega) | (simp only [row_n _ _ (show (1 : Nat) ≠ 7 by decide), row_n _ _ (show (1 : Nat) ≠ 6 by decide), aset_kn _ _ _ (show (1 : Nat) ≠ 2 by decide), aset_kn _ _ _ (show (1 : Nat) ≠ 3 by decide), aset_kn _ _ _ (show (1 : Nat) ≠ 4 by decide), aset_kn _ _ _ (show (1 : Nat) ≠ 5 by decide)]; first | omega | (refine ⟨?_, ?_⟩ <;> omega))) (by omega) ?_
  refine j_aload_n C dX0_add_22 rfl ?_
  refine j_getR C fX0_add_15 rfl rfl dX0_add_23 ?_
  refine j_aload_n C dX0_add_26 rfl ?_
  refine j_getI C fX0_add_34 rfl rfl dX0_add_27 ?_
  simp only [row_n _ _ (show (1 : Nat) ≠ 7 by decide), row_n _ _ (show (1 : Nat) ≠ 6 by decide), aset_kn _ _ _ (show (1 : Nat) ≠ 2 by decide), aset_kn _ _ _ (show (1 : Nat) ≠ 3 by decide), aset_kn _ _ _ (show (1 : Nat) ≠ 4 by decide), aset_kn _ _ _ (show (1 : Nat) ≠ 5 by decide)]
  refine j_iload_n C dX0_add_30 rfl ?_
  refine j_iastore C rfl (by decide) dX0_add_31 (by first | omega | (refine ⟨?_, ?_⟩ <;> omega) | exact hw _ _ | exact nrm_R _ | (simp [row, aset]; omega) | (simp only [row_n _ _ (show (1 : Nat) ≠ 7 by decide), row_n _ _ (show (1 : Nat) ≠ 6 by decide), aset_kn _ _ _ (show (1 : Nat) ≠ 2 by decide), aset_kn _ _ _ (show (1 : Nat) ≠ 3 by decide), aset_kn _ _ _ (show (1 : Nat) ≠ 4 by decide), aset_kn _ _ _ (show (1 : Nat) ≠ 5 by decide)]; first | omega | (refine ⟨?_, ?_⟩ <;> omega))) (by first | omega | (refine ⟨?_, ?_⟩ <;> omega) | exact hw _ _ | exact nrm_R _ | (simp [row, aset]; omega) | (simp only [row_n _ _ (show (1 : Nat) ≠ 7 by decide), row_n _ _ (show (1 : Nat) ≠ 6 by decide), aset_kn _ _ _ (show (1 : Nat) ≠ 2 by decide), aset_kn _ _ _ (show (1 : Nat) ≠ 3 by decide), aset_kn _ _ _ (show (1 : Nat) ≠ 4 by decide), aset_kn _ _ _ (show (1 : Nat) ≠ 5 by decide)]; first | omega | (refine ⟨?_, ?_⟩ <;> omega))) (by omega) ?_
  refine j_aload_n C dX0_add_32 rfl ?_
  refine j_getR C fX0_add_18 rfl rfl dX0_add_33 ?_
  refine j_aload_n C dX0_add_36 rfl ?_
  refine j_getI C fX0_add_34 rfl rfl dX0_add_37 ?_
  simp only [row_n _ _ (show (1 : Nat) ≠ 7 by decide), row_n _ _ (show (1 : Nat) ≠ 6 by decide), aset_kn _ _ _ (show (1 : Nat) ≠ 2 by decide), aset_kn _ _ _ (show (1 : Nat) ≠ 3 by decide), aset_kn _ _ _ (show (1 : Nat) ≠ 4 by decide), aset_kn _ _ _ (show (1 : Nat) ≠ 5 by decide)]
  refine j_iload_n C dX0_add_40 rfl ?_
  refine j_iastore C rfl (by decide) dX0_add_41 (by first | omega | (refine ⟨?_, ?_⟩ <;> omega) | exact hw _ _ | exact nrm_R _ | (simp [row, aset]; omega) | (simp only [row_n _ _ (show (1 : Nat) ≠ 7 by decide), row_n _ _ (show (1 : Nat) ≠ 6 by decide), aset_kn _ _ _ (show (1 : Nat) ≠ 2 by decide), aset_kn _ _ _ (show (1 : Nat) ≠ 3 by decide), aset_kn _ _ _ (show (1 : Nat) ≠ 4 by decide), aset_kn _ _ _ (show (1 : Nat) ≠ 5 by decide)]; first | omega | (refine ⟨?_, ?_⟩ <;> omega))) (by first | omega | (refine ⟨?_, ?_⟩ <;> omega) | exact hw _ _ | exact nrm_R _ | (simp [row, aset]; omega) | (simp only [row_n _ _ (show (1 : Nat) ≠ 7 by decide), row_n _ _ (show (1 : Nat) ≠ 6 by decide), aset_kn _ _ _ (show (1 : Nat) ≠ 2 by decide), aset_kn _ _ _ (show (1 : Nat) ≠ 3 by decide), aset_kn _ _ _ (show (1 : Nat) ≠ 4 by decide), aset_kn _ _ _ (show (1 : Nat) ≠ 5 by decide)]; first | omega | (refine ⟨?_, ?_⟩ <;> omega))) (by exact h5) ?_
  refine j_aload_n C dX0_add_42 rfl ?_
  refine j_getR C fX0_add_21 rfl rfl dX0_add_43 ?_
  refine j_aload_n C dX0_add_46 rfl ?_
  refine j_getI C fX0_add_34 rfl rfl dX0_add_47 ?_
  simp only [row_n _ _ (show (1 : Nat) ≠ 7 by decide), row_n _ _ (show (1 : Nat) ≠ 6 by decide), aset_kn _ _ _ (show (1 : Nat) ≠ 2 by decide), aset_kn _ _ _ (show (1 : Nat) ≠ 3 by decide), aset_kn _ _ _ (show (1 : Nat) ≠ 4 by decide), aset_kn _ _ _ (show (1 : Nat) ≠ 5 by decide)]
  refine j_iload C dX0_add_50 rfl ?_
  refine j_bastore C rfl (by decide) dX0_add_52 (by first | omega | (refine ⟨?_, ?_⟩ <;> omega) | exact hw _ _ | exact nrm_R _ | (simp [row, aset]; omega) | (simp only [row_n _ _ (show (1 : Nat) ≠ 7 by decide), row_n _ _ (show (1 : Nat) ≠ 6 by decide), aset_kn _ _ _ (show (1 : Nat) ≠ 2 by decide), aset_kn _ _ _ (show (1 : Nat) ≠ 3 by decide), aset_kn _ _ _ (show (1 : Nat) ≠ 4 by decide), aset_kn _ _ _ (show (1 : Nat) ≠ 5 by decide)]; first | omega | (refine ⟨?_, ?_⟩ <;> omega))) (by first | omega | (refine ⟨?_, ?_⟩ <;> omega) | exact hw _ _ | exact nrm_R _ | (simp [row, aset]; omega) | (simp only [row_n _ _ (show (1 : Nat) ≠ 7 by decide), row_n _ _ (show (1 : Nat) ≠ 6 by decide), aset_kn _ _ _ (show (1 : Nat) ≠ 2 by decide), aset_kn _ _ _ (show (1 : Nat) ≠ 3 by decide), aset_kn _ _ _ (show (1 : Nat) ≠ 4 by decide), aset_kn _ _ _ (show (1 : Nat) ≠ 5 by decide)]; first | omega | (refine ⟨?_, ?_⟩ <;> omega))) (by exact hb_7) ?_
  refine j_aload_n C dX0_add_53 rfl ?_
  refine j_dup C dX0_add_54 ?_
  refine j_getI C fX0_add_34 rfl rfl dX0_add_55 ?_
  simp only [row_n _ _ (show (1 : Nat) ≠ 7 by decide), row_n _ _ (show (1 : Nat) ≠ 6 by decide), aset_kn _ _ _ (show (1 : Nat) ≠ 2 by decide), aset_kn _ _ _ (show (1 : Nat) ≠ 3 by decide), aset_kn _ _ _ (show (1 : Nat) ≠ 4 by decide), aset_kn _ _ _ (show (1 : Nat) ≠ 5 by decide)]
  refine j_iconst C dX0_add_58 ?_
  refine j_iadd C dX0_add_59 ?_
  refine j_putI C pX0_add_34 rfl rfl (by first | omega | (refine ⟨?_, ?_⟩ <;> omega) | exact hw _ _ | exact nrm_R _ | (simp [row, aset]; omega) | (simp only [row_n _ _ (show (1 : Nat) ≠ 7 by decide), row_n _ _ (show (1 : Nat) ≠ 6 by decide), aset_kn _ _ _ (show (1 : Nat) ≠ 2 by decide), aset_kn _ _ _ (show (1 : Nat) ≠ 3 by decide), aset_kn _ _ _ (show (1 : Nat) ≠ 4 by decide), aset_kn _ _ _ (show (1 : Nat) ≠ 5 by decide)]; first | omega | (refine ⟨?_, ?_⟩ <;> omega))) (by intro h; cases h) dX0_add_60 ?_
  refine j_iload C dX0_add_63 rfl ?_
  refine j_if_eq C (tgt := 78) dX0_add_65 (by decide) (by omega) (fun c_65 => ?_) (fun c_65 => ?_)
  · refine j_iload C dX0_add_78 rfl ?_
    refine j_iretI C dX0_add_80 (fun _ => by first | exact Or.inl rfl | exact Or.inr rfl | assumption | omega) (fun hw9 => ?_)
    refine ⟨hb_7, hi_7, ?_⟩
    unfold addG
    first
    | (have e1 : x_7 = 0 := c_65
       subst e1
       rw [Int.add_zero]
       symm
       have e2 := aset_id (aset (aset (aset (aset (aset (row (row g 6 (fitU (g 6) (24 + t).toNat p.toNat 64)) 7 (fitH (g 6) (g 7) (24 + t).toNat p.toNat v)) 2 (g 1 4).toNat t) 3 (g 1 4).toNat p) 4 (g 1 4).toNat v) 5 (g 1 4).toNat 0) 1 4 (g 1 4 + 1)) 1 5
       have e3 : aset (aset (aset (aset (aset (row (row g 6 (fitU (g 6) (24 + t).toNat p.toNat 64)) 7 (fitH (g 6) (g 7) (24 + t).toNat p.toNat v)) 2 (g 1 4).toNat t) 3 (g 1 4).toNat p) 4 (g 1 4).toNat v) 5 (g 1 4).toNat 0) 1 4 (g 1 4 + 1) 1 5 = g 1 5 := by simp [row, aset]
       rw [e3] at e2
       exact e2)
    | (have e1 : x_7 = 1 := by omega
       subst e1
       congr 1
       all_goals simp [row, aset])
  · refine j_aload_n C dX0_add_68 rfl ?_
    refine j_dup C dX0_add_69 ?_
    refine j_getI C fX0_add_38 rfl rfl dX0_add_70 ?_
    refine j_iconst C dX0_add_73 ?_
    refine j_iadd C dX0_add_74 ?_
    refine j_putI C pX0_add_38 rfl rfl (by first | omega | (refine ⟨?_, ?_⟩ <;> omega) | exact hw _ _ | exact nrm_R _ | (simp [row, aset]; omega) | (simp only [row_n _ _ (show (1 : Nat) ≠ 7 by decide), row_n _ _ (show (1 : Nat) ≠ 6 by decide), aset_kn _ _ _ (show (1 : Nat) ≠ 2 by decide), aset_kn _ _ _ (show (1 : Nat) ≠ 3 by decide), aset_kn _ _ _ (show (1 : Nat) ≠ 4 by decide), aset_kn _ _ _ (show (1 : Nat) ≠ 5 by decide)]; first | omega | (refine ⟨?_, ?_⟩ <;> omega))) (by intro h; cases h) dX0_add_75 ?_
    refine j_iload C dX0_add_78 rfl ?_
    refine j_iretI C dX0_add_80 (fun _ => by first | exact Or.inl rfl | exact Or.inr rfl | assumption | omega) (fun hw9 => ?_)
    refine ⟨hb_7, hi_7, ?_⟩
    unfold addG
    first
    | (have e1 : x_7 = 0 := c_65
       subst e1
       rw [Int.add_zero]
       symm
       have e2 := aset_id (aset (aset (aset (aset (aset (row (row g 6 (fitU (g 6) (24 + t).toNat p.toNat 64)) 7 (fitH (g 6) (g 7) (24 + t).toNat p.toNat v)) 2 (g 1 4).toNat t) 3 (g 1 4).toNat p) 4 (g 1 4).toNat v) 5 (g 1 4).toNat 0) 1 4 (g 1 4 + 1)) 1 5
       have e3 : aset (aset (aset (aset (aset (row (row g 6 (fitU (g 6) (24 + t).toNat p.toNat 64)) 7 (fitH (g 6) (g 7) (24 + t).toNat p.toNat v)) 2 (g 1 4).toNat t) 3 (g 1 4).toNat p) 4 (g 1 4).toNat v) 5 (g 1 4).toNat 0) 1 4 (g 1 4 + 1) 1 5 = g 1 5 := by simp [row, aset]
       rw [e3] at e2
       exact e2)
    | (have e1 : x_7 = 1 := by omega
       subst e1
       congr 1
       all_goals simp [row, aset])
