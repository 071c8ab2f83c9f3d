theorem inX2_renew_X2 : ∀ w ∈ wsX20, w ∈ wsX2_renew := fun w h => List.mem_cons_of_mem _ (List.mem_append_right _ h)
theorem pX2_renew_18 : aFP wsX2_renew RX2 18 2 2 false := ⟨_, _, _, tyX2, rfl, inX2_renew_X2, tyX2_ok, nmX2, by decide, by decide +kernel, rfl, rfl⟩
theorem fX2_renew_9 : aFL wsX2_renew RX2 9 2 0 := ⟨_, _, _, rfl, inX2_renew_X2, by decide, by decide +kernel⟩
theorem vX2_renew_34 : aCS wsX2_renew rmX2_renew RX2 34 yJ7_fill_53178 wsJ7_fill_53178 rmJ7_fill_53178 2 := ⟨_, _, _, _, gX2_renew_J7_fill_53178, rfl, rfl, rfl, ⟨by decide +kernel, by decide +kernel, by decide +kernel⟩, by decide⟩
theorem fX2_renew_15 : aFL wsX2_renew RX2 15 2 1 := ⟨_, _, _, rfl, inX2_renew_X2, by decide, by decide +kernel⟩
theorem inX2_places_X2 : ∀ w ∈ wsX20, w ∈ wsX2_places := fun w h => List.mem_cons_of_mem _ (List.mem_append_right _ h)
theorem fX2_places_18 : aFL wsX2_places RX2 18 2 2 := ⟨_, _, _, rfl, inX2_places_X2, by decide, by decide +kernel⟩
theorem inX2_nextLaw_X2 : ∀ w ∈ wsX20, w ∈ wsX2_nextLaw := fun w h => List.mem_cons_of_mem _ (List.mem_append_right _ h)
theorem fX2_nextLaw_22 : aFL wsX2_nextLaw RX2 22 2 3 := ⟨_, _, _, rfl, inX2_nextLaw_X2, by decide, by decide +kernel⟩
theorem inX2_bendLaw_X2 : ∀ w ∈ wsX20, w ∈ wsX2_bendLaw := fun w h => List.mem_cons_of_mem _ (List.mem_append_right _ h)
theorem fX2_bendLaw_25 : aFL wsX2_bendLaw RX2 25 2 4 := ⟨_, _, _, rfl, inX2_bendLaw_X2, by decide, by decide +kernel⟩
theorem inX2_mainSpread_X2 : ∀ w ∈ wsX20, w ∈ wsX2_mainSpread := fun w h => List.mem_cons_of_mem _ (List.mem_append_right _ h)
theorem fX2_mainSpread_28 : aFL wsX2_mainSpread RX2 28 2 5 := ⟨_, _, _, rfl, inX2_mainSpread_X2, by decide, by decide +kernel⟩
theorem inX2_sideSpread_X2 : ∀ w ∈ wsX20, w ∈ wsX2_sideSpread := fun w h => List.mem_cons_of_mem _ (List.mem_append_right _ h)
theorem fX2_sideSpread_40 : aFL wsX2_sideSpread RX2 40 2 6 := ⟨_, _, _, rfl, inX2_sideSpread_X2, by decide, by decide +kernel⟩
theorem inX2_baseOf_X2 : ∀ w ∈ wsX20, w ∈ wsX2_baseOf := fun w h => List.mem_cons_of_mem _ (List.mem_append_right _ h)
theorem fX2_baseOf_9 : aFL wsX2_baseOf RX2 9 2 0 := ⟨_, _, _, rfl, inX2_baseOf_X2, by decide, by decide +kernel⟩
theorem inX2_settingOf_X2 : ∀ w ∈ wsX20, w ∈ wsX2_settingOf := fun w h => List.mem_cons_of_mem _ (List.mem_append_right _ h)
theorem fX2_settingOf_15 : aFL wsX2_settingOf RX2 15 2 1 := ⟨_, _, _, rfl, inX2_settingOf_X2, by decide, by decide +kernel⟩
theorem inX2_putLaws_X2 : ∀ w ∈ wsX20, w ∈ wsX2_putLaws := fun w h => List.mem_cons_of_mem _ (List.mem_append_right _ h)
theorem pX2_putLaws_22 : aFP wsX2_putLaws RX2 22 2 3 false := ⟨_, _, _, tyX2, rfl, inX2_putLaws_X2, tyX2_ok, nmX2, by decide, by decide +kernel, rfl, rfl⟩
theorem pX2_putLaws_25 : aFP wsX2_putLaws RX2 25 2 4 false := ⟨_, _, _, tyX2, rfl, inX2_putLaws_X2, tyX2_ok, nmX2, by decide, by decide +kernel, rfl, rfl⟩
theorem inX2_putSpread_X2 : ∀ w ∈ wsX20, w ∈ wsX2_putSpread := fun w h => List.mem_cons_of_mem _ (List.mem_append_right _ h)
theorem pX2_putSpread_28 : aFP wsX2_putSpread RX2 28 2 5 false := ⟨_, _, _, tyX2, rfl, inX2_putSpread_X2, tyX2_ok, nmX2, by decide, by decide +kernel, rfl, rfl⟩
theorem pX2_putSpread_40 : aFP wsX2_putSpread RX2 40 2 6 false := ⟨_, _, _, tyX2, rfl, inX2_putSpread_X2, tyX2_ok, nmX2, by decide, by decide +kernel, rfl, rfl⟩
theorem inX2_putBase_X2 : ∀ w ∈ wsX20, w ∈ wsX2_putBase := fun w h => List.mem_cons_of_mem _ (List.mem_append_right _ h)
theorem fX2_putBase_9 : aFL wsX2_putBase RX2 9 2 0 := ⟨_, _, _, rfl, inX2_putBase_X2, by decide, by decide +kernel⟩
theorem inX2_trySetting_X2 : ∀ w ∈ wsX20, w ∈ wsX2_trySetting := fun w h => List.mem_cons_of_mem _ (List.mem_append_right _ h)
theorem fX2_trySetting_15 : aFL wsX2_trySetting RX2 15 2 1 := ⟨_, _, _, rfl, inX2_trySetting_X2, by decide, by decide +kernel⟩
theorem fX2_trySetting_22 : aFL wsX2_trySetting RX2 22 2 3 := ⟨_, _, _, rfl, inX2_trySetting_X2, by decide, by decide +kernel⟩
theorem fX2_trySetting_25 : aFL wsX2_trySetting RX2 25 2 4 := ⟨_, _, _, rfl, inX2_trySetting_X2, by decide, by decide +kernel⟩
theorem vX2_trySetting_43 : aCV wsX2_trySetting rmX2_trySetting RX2 43 2 yX2_isLawful wsX2_isLawful rmX2_isLawful 2 := ⟨TX2, _, _, _, _, _, rfl, gX2_trySetting_X2_isLawful, rfl, rfl, rfl, ⟨by decide +kernel, by decide +kernel, by decide +kernel⟩, by decide⟩
theorem inX2_isLawful_X2 : ∀ w ∈ wsX20, w ∈ wsX2_isLawful := fun w h => List.mem_cons_of_mem _ (List.mem_append_right _ h)
theorem fX2_isLawful_18 : aFL wsX2_isLawful RX2 18 2 2 := ⟨_, _, _, rfl, inX2_isLawful_X2, by decide, by decide +kernel⟩
theorem fX2_isLawful_15 : aFL wsX2_isLawful RX2 15 2 1 := ⟨_, _, _, rfl, inX2_isLawful_X2, by decide, by decide +kernel⟩
theorem vX2_isLawful_47 : aMw wsX2_isLawful RX2 47 Lib.Math.abs.name Lib.Math.abs.code 1 := ⟨by decide +kernel, by decide +kernel, by decide +kernel, by decide +kernel⟩
theorem inX2_errorOf_X2 : ∀ w ∈ wsX20, w ∈ wsX2_errorOf := fun w h => List.mem_cons_of_mem _ (List.mem_append_right _ h)
theorem fX2_errorOf_9 : aFL wsX2_errorOf RX2 9 2 0 := ⟨_, _, _, rfl, inX2_errorOf_X2, by decide, by decide +kernel⟩
theorem fX2_errorOf_28 : aFL wsX2_errorOf RX2 28 2 5 := ⟨_, _, _, rfl, inX2_errorOf_X2, by decide, by decide +kernel⟩
theorem fX2_errorOf_15 : aFL wsX2_errorOf RX2 15 2 1 := ⟨_, _, _, rfl, inX2_errorOf_X2, by decide, by decide +kernel⟩
theorem fX2_errorOf_40 : aFL wsX2_errorOf RX2 40 2 6 := ⟨_, _, _, rfl, inX2_errorOf_X2, by decide, by decide +kernel⟩
theorem fX2_errorOf_18 : aFL wsX2_errorOf RX2 18 2 2 := ⟨_, _, _, rfl, inX2_errorOf_X2, by decide, by decide +kernel⟩
theorem vX2_sizeOf_53 : aCV wsX2_sizeOf rmX2_sizeOf RX2 53 2 yX2_errorOf wsX2_errorOf rmX2_errorOf 1 := ⟨TX2, _, _, _, _, _, rfl, gX2_sizeOf_X2_errorOf, rfl, rfl, rfl, ⟨by decide +kernel, by decide +kernel, by decide +kernel⟩, by decide⟩
theorem vX2_sizeOf_47 : aMw wsX2_sizeOf RX2 47 Lib.Math.abs.name Lib.Math.abs.code 1 := ⟨by decide +kernel, by decide +kernel, by decide +kernel, by decide +kernel⟩
theorem inX2_unevenness_X2 : ∀ w ∈ wsX20, w ∈ wsX2_unevenness := fun w h => List.mem_cons_of_mem _ (List.mem_append_right _ h)
theorem fX2_unevenness_18 : aFL wsX2_unevenness RX2 18 2 2 := ⟨_, _, _, rfl, inX2_unevenness_X2, by decide, by decide +kernel⟩
theorem vX2_unevenness_56 : aCV wsX2_unevenness rmX2_unevenness RX2 56 2 yX2_sizeOf wsX2_sizeOf rmX2_sizeOf 1 := ⟨TX2, _, _, _, _, _, rfl, gX2_unevenness_X2_sizeOf, rfl, rfl, rfl, ⟨by decide +kernel, by decide +kernel, by decide +kernel⟩, by decide⟩
theorem vX2_unevenness_59 : aCS wsX2_unevenness rmX2_unevenness RX2 59 yX2_together wsX2_together rmX2_together 3 := ⟨_, _, _, _, gX2_unevenness_X2_together, rfl, rfl, rfl, ⟨by decide +kernel, by decide +kernel, by decide +kernel⟩, by decide⟩
theorem vX2_together_63 : aMw wsX2_together RX2 63 Lib.Math.max.name Lib.Math.max.code 2 := ⟨by decide +kernel, by decide +kernel, by decide +kernel, by decide +kernel⟩
theorem vX2_settle_67 : aCV wsX2_settle rmX2_settle RX2 67 2 yX2_weighLast wsX2_weighLast rmX2_weighLast 0 := ⟨TX2, _, _, _, _, _, rfl, gX2_settle_X2_weighLast, rfl, rfl, rfl, ⟨by decide +kernel, by decide +kernel, by decide +kernel⟩, by decide⟩
theorem inX2_settle_X2 : ∀ w ∈ wsX20, w ∈ wsX2_settle := fun w h => List.mem_cons_of_mem _ (List.mem_append_right _ h)
theorem fX2_settle_18 : aFL wsX2_settle RX2 18 2 2 := ⟨_, _, _, rfl, inX2_settle_X2, by decide, by decide +kernel⟩
theorem vX2_settle_70 : aCV wsX2_settle rmX2_settle RX2 70 2 yX2_weigh wsX2_weigh rmX2_weigh 2 := ⟨TX2, _, _, _, _, _, rfl, gX2_settle_X2_weigh, rfl, rfl, rfl, ⟨by decide +kernel, by decide +kernel, by decide +kernel⟩, by decide⟩
theorem vX2_settle_74 : aCV wsX2_settle rmX2_settle RX2 74 2 yX2_settleFirstTwo wsX2_settleFirstTwo rmX2_settleFirstTwo 1 := ⟨TX2, _, _, _, _, _, rfl, gX2_settle_X2_settleFirstTwo, rfl, rfl, rfl, ⟨by decide +kernel, by decide +kernel, by decide +kernel⟩, by decide⟩
theorem vX2_settle_56 : aCV wsX2_settle rmX2_settle RX2 56 2 yX2_sizeOf wsX2_sizeOf rmX2_sizeOf 1 := ⟨TX2, _, _, _, _, _, rfl, gX2_settle_X2_sizeOf, rfl, rfl, rfl, ⟨by decide +kernel, by decide +kernel, by decide +kernel⟩, by decide⟩
theorem fX2_settle_15 : aFL wsX2_settle RX2 15 2 1 := ⟨_, _, _, rfl, inX2_settle_X2, by decide, by decide +kernel⟩
theorem vX2_settle_78 : aCV wsX2_settle rmX2_settle RX2 78 2 yX2_lesserAfter wsX2_lesserAfter rmX2_lesserAfter 4 := ⟨TX2, _, _, _, _, _, rfl, gX2_settle_X2_lesserAfter, rfl, rfl, rfl, ⟨by decide +kernel, by decide +kernel, by decide +kernel⟩, by decide⟩
theorem vX2_settle_59 : aCS wsX2_settle rmX2_settle RX2 59 yX2_together wsX2_together rmX2_together 3 := ⟨_, _, _, _, gX2_settle_X2_together, rfl, rfl, rfl, ⟨by decide +kernel, by decide +kernel, by decide +kernel⟩, by decide⟩
theorem inX2_weighLast_X2 : ∀ w ∈ wsX20, w ∈ wsX2_weighLast := fun w h => List.mem_cons_of_mem _ (List.mem_append_right _ h)
theorem fX2_weighLast_18 : aFL wsX2_weighLast RX2 18 2 2 := ⟨_, _, _, rfl, inX2_weighLast_X2, by decide, by decide +kernel⟩
theorem fX2_weighLast_31 : aFL wsX2_weighLast RX2 31 2 7 := ⟨_, _, _, rfl, inX2_weighLast_X2, by decide, by decide +kernel⟩
theorem vX2_weighLast_82 : aCS wsX2_weighLast rmX2_weighLast RX2 82 yX2_spot wsX2_spot rmX2_spot 3 := ⟨_, _, _, _, gX2_weighLast_X2_spot, rfl, rfl, rfl, ⟨by decide +kernel, by decide +kernel, by decide +kernel⟩, by decide⟩
theorem fX2_weighLast_9 : aFL wsX2_weighLast RX2 9 2 0 := ⟨_, _, _, rfl, inX2_weighLast_X2, by decide, by decide +kernel⟩
theorem fX2_weighLast_28 : aFL wsX2_weighLast RX2 28 2 5 := ⟨_, _, _, rfl, inX2_weighLast_X2, by decide, by decide +kernel⟩
theorem fX2_weighLast_40 : aFL wsX2_weighLast RX2 40 2 6 := ⟨_, _, _, rfl, inX2_weighLast_X2, by decide, by decide +kernel⟩
theorem vX2_weighLast_47 : aMw wsX2_weighLast RX2 47 Lib.Math.abs.name Lib.Math.abs.code 1 := ⟨by decide +kernel, by decide +kernel, by decide +kernel, by decide +kernel⟩
theorem inX2_weigh_X2 : ∀ w ∈ wsX20, w ∈ wsX2_weigh := fun w h => List.mem_cons_of_mem _ (List.mem_append_right _ h)
theorem fX2_weigh_22 : aFL wsX2_weigh RX2 22 2 3 := ⟨_, _, _, rfl, inX2_weigh_X2, by decide, by decide +kernel⟩
theorem vX2_weigh_63 : aMw wsX2_weigh RX2 63 Lib.Math.max.name Lib.Math.max.code 2 := ⟨by decide +kernel, by decide +kernel, by decide +kernel, by decide +kernel⟩
theorem vX2_weigh_86 : aMw wsX2_weigh RX2 86 Lib.Math.min.name Lib.Math.min.code 2 := ⟨by decide +kernel, by decide +kernel, by decide +kernel, by decide +kernel⟩
theorem fX2_weigh_31 : aFL wsX2_weigh RX2 31 2 7 := ⟨_, _, _, rfl, inX2_weigh_X2, by decide, by decide +kernel⟩
theorem vX2_weigh_82 : aCS wsX2_weigh rmX2_weigh RX2 82 yX2_spot wsX2_spot rmX2_spot 3 := ⟨_, _, _, _, gX2_weigh_X2_spot, rfl, rfl, rfl, ⟨by decide +kernel, by decide +kernel, by decide +kernel⟩, by decide⟩
theorem vX2_weigh_89 : aCV wsX2_weigh rmX2_weigh RX2 89 2 yX2_leastRest wsX2_leastRest rmX2_leastRest 4 := ⟨TX2, _, _, _, _, _, rfl, gX2_weigh_X2_leastRest, rfl, rfl, rfl, ⟨by decide +kernel, by decide +kernel, by decide +kernel⟩, by decide⟩
theorem kX2_leastRest_92 : Cond.constant RX2 92 (i3 (1000000)) ∈ wsX2_leastRest := by decide +kernel
theorem inX2_leastRest_X2 : ∀ w ∈ wsX20, w ∈ wsX2_leastRest := fun w h => List.mem_cons_of_mem _ (List.mem_append_right _ h)
theorem fX2_leastRest_9 : aFL wsX2_leastRest RX2 9 2 0 := ⟨_, _, _, rfl, inX2_leastRest_X2, by decide, by decide +kernel⟩
theorem fX2_leastRest_28 : aFL wsX2_leastRest RX2 28 2 5 := ⟨_, _, _, rfl, inX2_leastRest_X2, by decide, by decide +kernel⟩
theorem fX2_leastRest_40 : aFL wsX2_leastRest RX2 40 2 6 := ⟨_, _, _, rfl, inX2_leastRest_X2, by decide, by decide +kernel⟩
theorem vX2_leastRest_82 : aCS wsX2_leastRest rmX2_leastRest RX2 82 yX2_spot wsX2_spot rmX2_spot 3 := ⟨_, _, _, _, gX2_leastRest_X2_spot, rfl, rfl, rfl, ⟨by decide +kernel, by decide +kernel, by decide +kernel⟩, by decide⟩
theorem vX2_leastRest_93 : aCV wsX2_leastRest rmX2_leastRest RX2 93 2 yX2_highestAfter wsX2_highestAfter rmX2_highestAfter 2 := ⟨TX2, _, _, _, _, _, rfl, gX2_leastRest_X2_highestAfter, rfl, rfl, rfl, ⟨by decide +kernel, by decide +kernel, by decide +kernel⟩, by decide⟩
theorem vX2_leastRest_96 : aCV wsX2_leastRest rmX2_leastRest RX2 96 2 yX2_lowestAfter wsX2_lowestAfter rmX2_lowestAfter 2 := ⟨TX2, _, _, _, _, _, rfl, gX2_leastRest_X2_lowestAfter, rfl, rfl, rfl, ⟨by decide +kernel, by decide +kernel, by decide +kernel⟩, by decide⟩
theorem fX2_leastRest_31 : aFL wsX2_leastRest RX2 31 2 7 := ⟨_, _, _, rfl, inX2_leastRest_X2, by decide, by decide +kernel⟩
theorem kX2_settleFirstTwo_92 : Cond.constant RX2 92 (i3 (1000000)) ∈ wsX2_settleFirstTwo := by decide +kernel
theorem inX2_settleFirstTwo_X2 : ∀ w ∈ wsX20, w ∈ wsX2_settleFirstTwo := fun w h => List.mem_cons_of_mem _ (List.mem_append_right _ h)
theorem fX2_settleFirstTwo_22 : aFL wsX2_settleFirstTwo RX2 22 2 3 := ⟨_, _, _, rfl, inX2_settleFirstTwo_X2, by decide, by decide +kernel⟩
theorem vX2_settleFirstTwo_86 : aMw wsX2_settleFirstTwo RX2 86 Lib.Math.min.name Lib.Math.min.code 2 := ⟨by decide +kernel, by decide +kernel, by decide +kernel, by decide +kernel⟩
theorem vX2_settleFirstTwo_63 : aMw wsX2_settleFirstTwo RX2 63 Lib.Math.max.name Lib.Math.max.code 2 := ⟨by decide +kernel, by decide +kernel, by decide +kernel, by decide +kernel⟩
theorem fX2_settleFirstTwo_9 : aFL wsX2_settleFirstTwo RX2 9 2 0 := ⟨_, _, _, rfl, inX2_settleFirstTwo_X2, by decide, by decide +kernel⟩
theorem fX2_settleFirstTwo_28 : aFL wsX2_settleFirstTwo RX2 28 2 5 := ⟨_, _, _, rfl, inX2_settleFirstTwo_X2, by decide, by decide +kernel⟩
theorem fX2_settleFirstTwo_40 : aFL wsX2_settleFirstTwo RX2 40 2 6 := ⟨_, _, _, rfl, inX2_settleFirstTwo_X2, by decide, by decide +kernel⟩
theorem vX2_settleFirstTwo_47 : aMw wsX2_settleFirstTwo RX2 47 Lib.Math.abs.name Lib.Math.abs.code 1 := ⟨by decide +kernel, by decide +kernel, by decide +kernel, by decide +kernel⟩
theorem fX2_settleFirstTwo_31 : aFL wsX2_settleFirstTwo RX2 31 2 7 := ⟨_, _, _, rfl, inX2_settleFirstTwo_X2, by decide, by decide +kernel⟩
theorem vX2_settleFirstTwo_82 : aCS wsX2_settleFirstTwo rmX2_settleFirstTwo RX2 82 yX2_spot wsX2_spot rmX2_spot 3 := ⟨_, _, _, _, gX2_settleFirstTwo_X2_spot, rfl, rfl, rfl, ⟨by decide +kernel, by decide +kernel, by decide +kernel⟩, by decide⟩
theorem vX2_settleFirstTwo_59 : aCS wsX2_settleFirstTwo rmX2_settleFirstTwo RX2 59 yX2_together wsX2_together rmX2_together 3 := ⟨_, _, _, _, gX2_settleFirstTwo_X2_together, rfl, rfl, rfl, ⟨by decide +kernel, by decide +kernel, by decide +kernel⟩, by decide⟩
theorem fX2_settleFirstTwo_15 : aFL wsX2_settleFirstTwo RX2 15 2 1 := ⟨_, _, _, rfl, inX2_settleFirstTwo_X2, by decide, by decide +kernel⟩
theorem inX2_lesserAfter_X2 : ∀ w ∈ wsX20, w ∈ wsX2_lesserAfter := fun w h => List.mem_cons_of_mem _ (List.mem_append_right _ h)
theorem fX2_lesserAfter_15 : aFL wsX2_lesserAfter RX2 15 2 1 := ⟨_, _, _, rfl, inX2_lesserAfter_X2, by decide, by decide +kernel⟩
theorem fX2_lesserAfter_9 : aFL wsX2_lesserAfter RX2 9 2 0 := ⟨_, _, _, rfl, inX2_lesserAfter_X2, by decide, by decide +kernel⟩
theorem fX2_lesserAfter_28 : aFL wsX2_lesserAfter RX2 28 2 5 := ⟨_, _, _, rfl, inX2_lesserAfter_X2, by decide, by decide +kernel⟩
theorem fX2_lesserAfter_40 : aFL wsX2_lesserAfter RX2 40 2 6 := ⟨_, _, _, rfl, inX2_lesserAfter_X2, by decide, by decide +kernel⟩
theorem vX2_lesserAfter_82 : aCS wsX2_lesserAfter rmX2_lesserAfter RX2 82 yX2_spot wsX2_spot rmX2_spot 3 := ⟨_, _, _, _, gX2_lesserAfter_X2_spot, rfl, rfl, rfl, ⟨by decide +kernel, by decide +kernel, by decide +kernel⟩, by decide⟩
theorem vX2_lesserAfter_93 : aCV wsX2_lesserAfter rmX2_lesserAfter RX2 93 2 yX2_highestAfter wsX2_highestAfter rmX2_highestAfter 2 := ⟨TX2, _, _, _, _, _, rfl, gX2_lesserAfter_X2_highestAfter, rfl, rfl, rfl, ⟨by decide +kernel, by decide +kernel, by decide +kernel⟩, by decide⟩
theorem vX2_lesserAfter_96 : aCV wsX2_lesserAfter rmX2_lesserAfter RX2 96 2 yX2_lowestAfter wsX2_lowestAfter rmX2_lowestAfter 2 := ⟨TX2, _, _, _, _, _, rfl, gX2_lesserAfter_X2_lowestAfter, rfl, rfl, rfl, ⟨by decide +kernel, by decide +kernel, by decide +kernel⟩, by decide⟩
theorem vX2_lesserAfter_47 : aMw wsX2_lesserAfter RX2 47 Lib.Math.abs.name Lib.Math.abs.code 1 := ⟨by decide +kernel, by decide +kernel, by decide +kernel, by decide +kernel⟩
theorem vX2_lesserAfter_59 : aCS wsX2_lesserAfter rmX2_lesserAfter RX2 59 yX2_together wsX2_together rmX2_together 3 := ⟨_, _, _, _, gX2_lesserAfter_X2_together, rfl, rfl, rfl, ⟨by decide +kernel, by decide +kernel, by decide +kernel⟩, by decide⟩
theorem fX2_lesserAfter_31 : aFL wsX2_lesserAfter RX2 31 2 7 := ⟨_, _, _, rfl, inX2_lesserAfter_X2, by decide, by decide +kernel⟩
theorem inX2_lowestAfter_X2 : ∀ w ∈ wsX20, w ∈ wsX2_lowestAfter := fun w h => List.mem_cons_of_mem _ (List.mem_append_right _ h)
theorem fX2_lowestAfter_22 : aFL wsX2_lowestAfter RX2 22 2 3 := ⟨_, _, _, rfl, inX2_lowestAfter_X2, by decide, by decide +kernel⟩
theorem fX2_lowestAfter_25 : aFL wsX2_lowestAfter RX2 25 2 4 := ⟨_, _, _, rfl, inX2_lowestAfter_X2, by decide, by decide +kernel⟩
theorem vX2_lowestAfter_63 : aMw wsX2_lowestAfter RX2 63 Lib.Math.max.name Lib.Math.max.code 2 := ⟨by decide +kernel, by decide +kernel, by decide +kernel, by decide +kernel⟩
theorem inX2_highestAfter_X2 : ∀ w ∈ wsX20, w ∈ wsX2_highestAfter := fun w h => List.mem_cons_of_mem _ (List.mem_append_right _ h)
theorem fX2_highestAfter_22 : aFL wsX2_highestAfter RX2 22 2 3 := ⟨_, _, _, rfl, inX2_highestAfter_X2, by decide, by decide +kernel⟩
theorem fX2_highestAfter_25 : aFL wsX2_highestAfter RX2 25 2 4 := ⟨_, _, _, rfl, inX2_highestAfter_X2, by decide, by decide +kernel⟩
theorem vX2_highestAfter_86 : aMw wsX2_highestAfter RX2 86 Lib.Math.min.name Lib.Math.min.code 2 := ⟨by decide +kernel, by decide +kernel, by decide +kernel, by decide +kernel⟩
