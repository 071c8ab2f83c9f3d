theorem inX1_count_X1 : ∀ w ∈ wsX10, w ∈ wsX1_count := fun w h => List.mem_cons_of_mem _ (List.mem_append_right _ h)
theorem fX1_count_24 : aFL wsX1_count RX1 24 1 0 := ⟨_, _, _, rfl, inX1_count_X1, by decide, by decide +kernel⟩
theorem inX1_add_X1 : ∀ w ∈ wsX10, w ∈ wsX1_add := fun w h => List.mem_cons_of_mem _ (List.mem_append_right _ h)
theorem pX1_add_28 : aFP wsX1_add RX1 28 1 3 true := ⟨_, _, _, tyX1, rfl, inX1_add_X1, tyX1_ok, nmX1, by decide, by decide +kernel, rfl, rfl⟩
theorem fX1_add_24 : aFL wsX1_add RX1 24 1 0 := ⟨_, _, _, rfl, inX1_add_X1, by decide, by decide +kernel⟩
theorem pX1_add_24 : aFP wsX1_add RX1 24 1 0 false := ⟨_, _, _, tyX1, rfl, inX1_add_X1, tyX1_ok, nmX1, by decide, by decide +kernel, rfl, rfl⟩
theorem vX1_putCost_32 : aCV wsX1_putCost rmX1_putCost RX1 32 1 yX1_costOf wsX1_costOf rmX1_costOf 2 := ⟨TX1, _, _, _, _, _, rfl, gX1_putCost_X1_costOf, rfl, rfl, rfl, ⟨by decide +kernel, by decide +kernel, by decide +kernel⟩, by decide⟩
theorem inX1_putCost_X1 : ∀ w ∈ wsX10, w ∈ wsX1_putCost := fun w h => List.mem_cons_of_mem _ (List.mem_append_right _ h)
theorem fX1_putCost_9 : aFL wsX1_putCost RX1 9 1 1 := ⟨_, _, _, rfl, inX1_putCost_X1, by decide, by decide +kernel⟩
theorem pX1_putCost_28 : aFP wsX1_putCost RX1 28 1 3 true := ⟨_, _, _, tyX1, rfl, inX1_putCost_X1, tyX1_ok, nmX1, by decide, by decide +kernel, rfl, rfl⟩
theorem inX1_costOf_X1 : ∀ w ∈ wsX10, w ∈ wsX1_costOf := fun w h => List.mem_cons_of_mem _ (List.mem_append_right _ h)
theorem fX1_costOf_9 : aFL wsX1_costOf RX1 9 1 1 := ⟨_, _, _, rfl, inX1_costOf_X1, by decide, by decide +kernel⟩
theorem vX1_leastCosts_36 : aCV wsX1_leastCosts rmX1_leastCosts RX1 36 1 yX1_weighAll wsX1_weighAll rmX1_weighAll 0 := ⟨TX1, _, _, _, _, _, rfl, gX1_leastCosts_X1_weighAll, rfl, rfl, rfl, ⟨by decide +kernel, by decide +kernel, by decide +kernel⟩, by decide⟩
theorem vX1_leastCosts_39 : aCV wsX1_leastCosts rmX1_leastCosts RX1 39 1 yX1_allBut wsX1_allBut rmX1_allBut 1 := ⟨TX1, _, _, _, _, _, rfl, gX1_leastCosts_X1_allBut, rfl, rfl, rfl, ⟨by decide +kernel, by decide +kernel, by decide +kernel⟩, by decide⟩
theorem vX1_leastCosts_43 : aCV wsX1_leastCosts rmX1_leastCosts RX1 43 1 yX1_restOf wsX1_restOf rmX1_restOf 2 := ⟨TX1, _, _, _, _, _, rfl, gX1_leastCosts_X1_restOf, rfl, rfl, rfl, ⟨by decide +kernel, by decide +kernel, by decide +kernel⟩, by decide⟩
theorem vX1_stepOf_36 : aCV wsX1_stepOf rmX1_stepOf RX1 36 1 yX1_weighAll wsX1_weighAll rmX1_weighAll 0 := ⟨TX1, _, _, _, _, _, rfl, gX1_stepOf_X1_weighAll, rfl, rfl, rfl, ⟨by decide +kernel, by decide +kernel, by decide +kernel⟩, by decide⟩
theorem vX1_stepOf_39 : aCV wsX1_stepOf rmX1_stepOf RX1 39 1 yX1_allBut wsX1_allBut rmX1_allBut 1 := ⟨TX1, _, _, _, _, _, rfl, gX1_stepOf_X1_allBut, rfl, rfl, rfl, ⟨by decide +kernel, by decide +kernel, by decide +kernel⟩, by decide⟩
theorem vX1_stepOf_46 : aCV wsX1_stepOf rmX1_stepOf RX1 46 1 yX1_lesserStep wsX1_lesserStep rmX1_lesserStep 2 := ⟨TX1, _, _, _, _, _, rfl, gX1_stepOf_X1_lesserStep, rfl, rfl, rfl, ⟨by decide +kernel, by decide +kernel, by decide +kernel⟩, by decide⟩
theorem vX1_stepOf_49 : aCS wsX1_stepOf rmX1_stepOf RX1 49 yX1_without wsX1_without rmX1_without 2 := ⟨_, _, _, _, gX1_stepOf_X1_without, rfl, rfl, rfl, ⟨by decide +kernel, by decide +kernel, by decide +kernel⟩, by decide⟩
theorem inX1_allBut_X1 : ∀ w ∈ wsX10, w ∈ wsX1_allBut := fun w h => List.mem_cons_of_mem _ (List.mem_append_right _ h)
theorem fX1_allBut_24 : aFL wsX1_allBut RX1 24 1 0 := ⟨_, _, _, rfl, inX1_allBut_X1, by decide, by decide +kernel⟩
theorem vX1_allBut_49 : aCS wsX1_allBut rmX1_allBut RX1 49 yX1_without wsX1_without rmX1_without 2 := ⟨_, _, _, _, gX1_allBut_X1_without, rfl, rfl, rfl, ⟨by decide +kernel, by decide +kernel, by decide +kernel⟩, by decide⟩
theorem inX1_restOf_X1 : ∀ w ∈ wsX10, w ∈ wsX1_restOf := fun w h => List.mem_cons_of_mem _ (List.mem_append_right _ h)
theorem fX1_restOf_15 : aFL wsX1_restOf RX1 15 1 2 := ⟨_, _, _, rfl, inX1_restOf_X1, by decide, by decide +kernel⟩
theorem inX1_weighAll_X1 : ∀ w ∈ wsX10, w ∈ wsX1_weighAll := fun w h => List.mem_cons_of_mem _ (List.mem_append_right _ h)
theorem fX1_weighAll_28 : aFL wsX1_weighAll RX1 28 1 3 := ⟨_, _, _, rfl, inX1_weighAll_X1, by decide, by decide +kernel⟩
theorem fX1_weighAll_24 : aFL wsX1_weighAll RX1 24 1 0 := ⟨_, _, _, rfl, inX1_weighAll_X1, by decide, by decide +kernel⟩
theorem vX1_weighAll_52 : aCS wsX1_weighAll rmX1_weighAll RX1 52 yX1_has wsX1_has rmX1_has 2 := ⟨_, _, _, _, gX1_weighAll_X1_has, rfl, rfl, rfl, ⟨by decide +kernel, by decide +kernel, by decide +kernel⟩, by decide⟩
theorem fX1_weighAll_15 : aFL wsX1_weighAll RX1 15 1 2 := ⟨_, _, _, rfl, inX1_weighAll_X1, by decide, by decide +kernel⟩
theorem vX1_weighAll_46 : aCV wsX1_weighAll rmX1_weighAll RX1 46 1 yX1_lesserStep wsX1_lesserStep rmX1_lesserStep 2 := ⟨TX1, _, _, _, _, _, rfl, gX1_weighAll_X1_lesserStep, rfl, rfl, rfl, ⟨by decide +kernel, by decide +kernel, by decide +kernel⟩, by decide⟩
theorem vX1_weighAll_56 : aCV wsX1_weighAll rmX1_weighAll RX1 56 1 yX1_throughStep wsX1_throughStep rmX1_throughStep 3 := ⟨TX1, _, _, _, _, _, rfl, gX1_weighAll_X1_throughStep, rfl, rfl, rfl, ⟨by decide +kernel, by decide +kernel, by decide +kernel⟩, by decide⟩
theorem pX1_weighAll_28 : aFP wsX1_weighAll RX1 28 1 3 true := ⟨_, _, _, tyX1, rfl, inX1_weighAll_X1, tyX1_ok, nmX1, by decide, by decide +kernel, rfl, rfl⟩
theorem vX1_throughStep_32 : aCV wsX1_throughStep rmX1_throughStep RX1 32 1 yX1_costOf wsX1_costOf rmX1_costOf 2 := ⟨TX1, _, _, _, _, _, rfl, gX1_throughStep_X1_costOf, rfl, rfl, rfl, ⟨by decide +kernel, by decide +kernel, by decide +kernel⟩, by decide⟩
theorem vX1_throughStep_49 : aCS wsX1_throughStep rmX1_throughStep RX1 49 yX1_without wsX1_without rmX1_without 2 := ⟨_, _, _, _, gX1_throughStep_X1_without, rfl, rfl, rfl, ⟨by decide +kernel, by decide +kernel, by decide +kernel⟩, by decide⟩
theorem vX1_throughStep_43 : aCV wsX1_throughStep rmX1_throughStep RX1 43 1 yX1_restOf wsX1_restOf rmX1_restOf 2 := ⟨TX1, _, _, _, _, _, rfl, gX1_throughStep_X1_restOf, rfl, rfl, rfl, ⟨by decide +kernel, by decide +kernel, by decide +kernel⟩, by decide⟩
theorem kX1_lesserStep_60 : Cond.constant RX1 60 (i3 (1000000)) ∈ wsX1_lesserStep := by decide +kernel
theorem inX1_lesserStep_X1 : ∀ w ∈ wsX10, w ∈ wsX1_lesserStep := fun w h => List.mem_cons_of_mem _ (List.mem_append_right _ h)
theorem fX1_lesserStep_24 : aFL wsX1_lesserStep RX1 24 1 0 := ⟨_, _, _, rfl, inX1_lesserStep_X1, by decide, by decide +kernel⟩
theorem vX1_lesserStep_52 : aCS wsX1_lesserStep rmX1_lesserStep RX1 52 yX1_has wsX1_has rmX1_has 2 := ⟨_, _, _, _, gX1_lesserStep_X1_has, rfl, rfl, rfl, ⟨by decide +kernel, by decide +kernel, by decide +kernel⟩, by decide⟩
theorem vX1_lesserStep_56 : aCV wsX1_lesserStep rmX1_lesserStep RX1 56 1 yX1_throughStep wsX1_throughStep rmX1_throughStep 3 := ⟨TX1, _, _, _, _, _, rfl, gX1_lesserStep_X1_throughStep, rfl, rfl, rfl, ⟨by decide +kernel, by decide +kernel, by decide +kernel⟩, by decide⟩
