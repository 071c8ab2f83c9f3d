theorem inX3_forget_X3 : ∀ w ∈ wsX30, w ∈ wsX3_forget := fun w h => List.mem_cons_of_mem _ (List.mem_append_right _ h)
theorem pX3_forget_31 : aFP wsX3_forget RX3 31 3 4 false := ⟨_, _, _, tyX3, rfl, inX3_forget_X3, tyX3_ok, nmX3, by decide, by decide +kernel, rfl, rfl⟩
theorem inX3_count_X3 : ∀ w ∈ wsX30, w ∈ wsX3_count := fun w h => List.mem_cons_of_mem _ (List.mem_append_right _ h)
theorem fX3_count_31 : aFL wsX3_count RX3 31 3 4 := ⟨_, _, _, rfl, inX3_count_X3, by decide, by decide +kernel⟩
theorem inX3_add_X3 : ∀ w ∈ wsX30, w ∈ wsX3_add := fun w h => List.mem_cons_of_mem _ (List.mem_append_right _ h)
theorem fX3_add_9 : aFL wsX3_add RX3 9 3 1 := ⟨_, _, _, rfl, inX3_add_X3, by decide, by decide +kernel⟩
theorem fX3_add_31 : aFL wsX3_add RX3 31 3 4 := ⟨_, _, _, rfl, inX3_add_X3, by decide, by decide +kernel⟩
theorem fX3_add_15 : aFL wsX3_add RX3 15 3 2 := ⟨_, _, _, rfl, inX3_add_X3, by decide, by decide +kernel⟩
theorem fX3_add_18 : aFL wsX3_add RX3 18 3 3 := ⟨_, _, _, rfl, inX3_add_X3, by decide, by decide +kernel⟩
theorem pX3_add_31 : aFP wsX3_add RX3 31 3 4 false := ⟨_, _, _, tyX3, rfl, inX3_add_X3, tyX3_ok, nmX3, by decide, by decide +kernel, rfl, rfl⟩
theorem inX3_lies_X3 : ∀ w ∈ wsX30, w ∈ wsX3_lies := fun w h => List.mem_cons_of_mem _ (List.mem_append_left _ (List.mem_append_right _ h))
theorem fX3_lies_9 : aFL wsX3_lies RX3 9 3 1 := ⟨_, _, _, rfl, inX3_lies_X3, by decide, by decide +kernel⟩
theorem fX3_lies_27 : aFL wsX3_lies RX3 27 3 0 := ⟨_, _, _, rfl, inX3_lies_X3, by decide, by decide +kernel⟩
theorem vX3_lies_35 : aCV wsX3_lies rmX3_lies RX3 35 2 yX2_places wsX2_places rmX2_places 0 := ⟨TX2, _, _, _, _, _, rfl, gX3_lies_X2_places, rfl, rfl, rfl, ⟨by decide +kernel, by decide +kernel, by decide +kernel⟩, by decide⟩
theorem vX3_lies_41 : aCV wsX3_lies rmX3_lies RX3 41 2 yX2_sizeOf wsX2_sizeOf rmX2_sizeOf 1 := ⟨TX2, _, _, _, _, _, rfl, gX3_lies_X2_sizeOf, rfl, rfl, rfl, ⟨by decide +kernel, by decide +kernel, by decide +kernel⟩, by decide⟩
theorem fX3_lies_18 : aFL wsX3_lies RX3 18 3 3 := ⟨_, _, _, rfl, inX3_lies_X3, by decide, by decide +kernel⟩
theorem inX3_plan_X3 : ∀ w ∈ wsX30, w ∈ wsX3_plan := fun w h => List.mem_cons_of_mem _ (List.mem_append_left _ (List.mem_append_right _ h))
theorem fX3_plan_27 : aFL wsX3_plan RX3 27 3 0 := ⟨_, _, _, rfl, inX3_plan_X3, by decide, by decide +kernel⟩
theorem vX3_plan_35 : aCV wsX3_plan rmX3_plan RX3 35 2 yX2_places wsX2_places rmX2_places 0 := ⟨TX2, _, _, _, _, _, rfl, gX3_plan_X2_places, rfl, rfl, rfl, ⟨by decide +kernel, by decide +kernel, by decide +kernel⟩, by decide⟩
theorem fX3_plan_21 : aFL wsX3_plan RX3 21 3 5 := ⟨_, _, _, rfl, inX3_plan_X3, by decide, by decide +kernel⟩
theorem vX3_plan_45 : aCV wsX3_plan rmX3_plan RX3 45 3 yX3_weigh wsX3_weigh rmX3_weigh 1 := ⟨TX3, _, _, _, _, _, rfl, gX3_plan_X3_weigh, rfl, rfl, rfl, ⟨by decide +kernel, by decide +kernel, by decide +kernel⟩, by decide⟩
theorem vX3_plan_49 : aCV wsX3_plan rmX3_plan RX3 49 3 yX3_dropCovered wsX3_dropCovered rmX3_dropCovered 1 := ⟨TX3, _, _, _, _, _, rfl, gX3_plan_X3_dropCovered, rfl, rfl, rfl, ⟨by decide +kernel, by decide +kernel, by decide +kernel⟩, by decide⟩
theorem inX3_weigh_X3 : ∀ w ∈ wsX30, w ∈ wsX3_weigh := fun w h => List.mem_cons_of_mem _ (List.mem_append_left _ (List.mem_append_right _ h))
theorem fX3_weigh_21 : aFL wsX3_weigh RX3 21 3 5 := ⟨_, _, _, rfl, inX3_weigh_X3, by decide, by decide +kernel⟩
theorem fX3_weigh_31 : aFL wsX3_weigh RX3 31 3 4 := ⟨_, _, _, rfl, inX3_weigh_X3, by decide, by decide +kernel⟩
theorem vX3_weigh_52 : aCV wsX3_weigh rmX3_weigh RX3 52 3 yX3_lies wsX3_lies rmX3_lies 2 := ⟨TX3, _, _, _, _, _, rfl, gX3_weigh_X3_lies, rfl, rfl, rfl, ⟨by decide +kernel, by decide +kernel, by decide +kernel⟩, by decide⟩
theorem fX3_weigh_15 : aFL wsX3_weigh RX3 15 3 2 := ⟨_, _, _, rfl, inX3_weigh_X3, by decide, by decide +kernel⟩
theorem fX3_weigh_9 : aFL wsX3_weigh RX3 9 3 1 := ⟨_, _, _, rfl, inX3_weigh_X3, by decide, by decide +kernel⟩
theorem fX3_weigh_24 : aFL wsX3_weigh RX3 24 3 6 := ⟨_, _, _, rfl, inX3_weigh_X3, by decide, by decide +kernel⟩
theorem inX3_dropCovered_X3 : ∀ w ∈ wsX30, w ∈ wsX3_dropCovered := fun w h => List.mem_cons_of_mem _ (List.mem_append_right _ h)
theorem fX3_dropCovered_24 : aFL wsX3_dropCovered RX3 24 3 6 := ⟨_, _, _, rfl, inX3_dropCovered_X3, by decide, by decide +kernel⟩
theorem fX3_dropCovered_9 : aFL wsX3_dropCovered RX3 9 3 1 := ⟨_, _, _, rfl, inX3_dropCovered_X3, by decide, by decide +kernel⟩
theorem inX3_plannedAt_X3 : ∀ w ∈ wsX30, w ∈ wsX3_plannedAt := fun w h => List.mem_cons_of_mem _ (List.mem_append_right _ h)
theorem fX3_plannedAt_24 : aFL wsX3_plannedAt RX3 24 3 6 := ⟨_, _, _, rfl, inX3_plannedAt_X3, by decide, by decide +kernel⟩
