set_option maxHeartbeats 4000000 in
set_option maxRecDepth 100000 in
theorem ct_X4_within {v lo hi : Int} {g : AG} (h : aR v ∧ aR lo ∧ aR hi) : MetI yX4_within wsX4_within rmX4_within ShW [.inl v, .inl lo, .inl hi] g (fun x g' => g' = g ∧ (x = 0 ∨ x = 1) ∧ (x = 1 ↔ lo ≤ v ∧ v ≤ hi)) := by
  refine metI_of (cc := cX4_within) (nL := 3) true (by decide +kernel) rfl (Nat.le_of_ble_eq_true rfl) (fun q J C => ?_)
  show J q ShW 0 0 0 [some (.inl v), some (.inl lo), some (.inl hi)] [] g
  refine j_wf C (fun hw => ?_)
  obtain ⟨⟨_, _⟩, ⟨_, _⟩, ⟨_, _⟩⟩ := h
  refine j_iload_n C dX4_within_0 rfl ?_
  refine j_iload_n C dX4_within_1 rfl ?_
  refine j_icmp_lt C (tgt := 14) dX4_within_2 (by decide) (by first | omega | (refine ⟨?_, ?_⟩ <;> omega) | exact hw _ _ | exact nrm_R _) (by first | omega | (refine ⟨?_, ?_⟩ <;> omega) | exact hw _ _ | exact nrm_R _) (fun c_2 => ?_) (fun c_2 => ?_)
  · refine j_iconst C dX4_within_14 ?_
    refine j_iretI C dX4_within_15 (fun _ => by first | exact Or.inl rfl | exact Or.inr rfl | assumption | omega) (fun hw9 => ?_)
    exact ⟨rfl, by omega, by omega⟩
  · refine j_iload_n C dX4_within_5 rfl ?_
    refine j_iload_n C dX4_within_6 rfl ?_
    refine j_icmp_gt C (tgt := 14) dX4_within_7 (by decide) (by first | omega | (refine ⟨?_, ?_⟩ <;> omega) | exact hw _ _ | exact nrm_R _) (by first | omega | (refine ⟨?_, ?_⟩ <;> omega) | exact hw _ _ | exact nrm_R _) (fun c_7 => ?_) (fun c_7 => ?_)
    · refine j_iconst C dX4_within_14 ?_
      refine j_iretI C dX4_within_15 (fun _ => by first | exact Or.inl rfl | exact Or.inr rfl | assumption | omega) (fun hw9 => ?_)
      exact ⟨rfl, by omega, by omega⟩
    · refine j_iconst C dX4_within_10 ?_
      refine j_goto C (tgt := 15) dX4_within_11 (by decide) ?_
      refine j_iretI C dX4_within_15 (fun _ => by first | exact Or.inl rfl | exact Or.inr rfl | assumption | omega) (fun hw9 => ?_)
      exact ⟨rfl, by omega, by omega⟩
set_option maxHeartbeats 4000000 in
set_option maxRecDepth 100000 in
theorem ct_X5_in {v lo hi : Int} {g : AG} (h : aR v ∧ aR lo ∧ aR hi) : MetI yX5_in wsX5_in rmX5_in ShW [.inl v, .inl lo, .inl hi] g (fun x g' => g' = g ∧ (x = 0 ∨ x = 1) ∧ (x = 1 ↔ lo ≤ v ∧ v ≤ hi)) := by
  refine metI_of (cc := cX5_in) (nL := 3) true (by decide +kernel) rfl (Nat.le_of_ble_eq_true rfl) (fun q J C => ?_)
  show J q ShW 0 0 0 [some (.inl v), some (.inl lo), some (.inl hi)] [] g
  refine j_wf C (fun hw => ?_)
  obtain ⟨⟨_, _⟩, ⟨_, _⟩, ⟨_, _⟩⟩ := h
  refine j_iload_n C dX5_in_0 rfl ?_
  refine j_iload_n C dX5_in_1 rfl ?_
  refine j_icmp_lt C (tgt := 14) dX5_in_2 (by decide) (by first | omega | (refine ⟨?_, ?_⟩ <;> omega) | exact hw _ _ | exact nrm_R _) (by first | omega | (refine ⟨?_, ?_⟩ <;> omega) | exact hw _ _ | exact nrm_R _) (fun c_2 => ?_) (fun c_2 => ?_)
  · refine j_iconst C dX5_in_14 ?_
    refine j_iretI C dX5_in_15 (fun _ => by first | exact Or.inl rfl | exact Or.inr rfl | assumption | omega) (fun hw9 => ?_)
    exact ⟨rfl, by omega, by omega⟩
  · refine j_iload_n C dX5_in_5 rfl ?_
    refine j_iload_n C dX5_in_6 rfl ?_
    refine j_icmp_gt C (tgt := 14) dX5_in_7 (by decide) (by first | omega | (refine ⟨?_, ?_⟩ <;> omega) | exact hw _ _ | exact nrm_R _) (by first | omega | (refine ⟨?_, ?_⟩ <;> omega) | exact hw _ _ | exact nrm_R _) (fun c_7 => ?_) (fun c_7 => ?_)
    · refine j_iconst C dX5_in_14 ?_
      refine j_iretI C dX5_in_15 (fun _ => by first | exact Or.inl rfl | exact Or.inr rfl | assumption | omega) (fun hw9 => ?_)
      exact ⟨rfl, by omega, by omega⟩
    · refine j_iconst C dX5_in_10 ?_
      refine j_goto C (tgt := 15) dX5_in_11 (by decide) ?_
      refine j_iretI C dX5_in_15 (fun _ => by first | exact Or.inl rfl | exact Or.inr rfl | assumption | omega) (fun hw9 => ?_)
      exact ⟨rfl, by omega, by omega⟩
set_option maxHeartbeats 4000000 in
set_option maxRecDepth 100000 in
theorem ct_X5_size {v : Int} {g : AG} (h : aR v) : MetI yX5_size wsX5_size rmX5_size ShW [.inl v] g (fun x g' => g' = g ∧ x = (v.natAbs : Int)) := by
  refine metI_of (cc := cX5_size) (nL := 1) false (by decide +kernel) rfl (Nat.le_of_ble_eq_true rfl) (fun q J C => ?_)
  show J q ShW 0 0 0 [some (.inl v)] [] g
  refine j_wf C (fun hw => ?_)
  obtain ⟨_, _⟩ := h
  refine j_iload_n C dX5_size_0 rfl ?_
  refine j_if_ge C (tgt := 9) dX5_size_1 (by decide) (by first | omega | (refine ⟨?_, ?_⟩ <;> omega) | exact hw _ _ | exact nrm_R _) (fun c_1 => ?_) (fun c_1 => ?_)
  · refine j_iload_n C dX5_size_9 rfl ?_
    refine j_iretI C dX5_size_10 (by intro h; cases h) (fun hw9 => ?_)
    exact ⟨rfl, by omega⟩
  · refine j_iload_n C dX5_size_4 rfl ?_
    refine j_ineg C dX5_size_5 ?_
    refine j_goto C (tgt := 10) dX5_size_6 (by decide) ?_
    refine j_iretI C dX5_size_10 (by intro h; cases h) (fun hw9 => ?_)
    exact ⟨rfl, by omega⟩
