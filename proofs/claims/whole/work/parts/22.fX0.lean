abbrev rmX0_forget : Room := { frames := 0, cells := 0, slots := 0, locals := 0 }
abbrev rmX0_add : Room := { frames := 1, cells := 0, slots := 0, locals := 27 }
abbrev rmX0_fit : Room := { frames := 0, cells := 0, slots := 0, locals := 0 }
abbrev rmX0_knotOfTime : Room := { frames := 0, cells := 0, slots := 0, locals := 0 }
abbrev rmX0_count : Room := { frames := 0, cells := 0, slots := 0, locals := 0 }
abbrev rmX0_fittingCount : Room := { frames := 0, cells := 0, slots := 0, locals := 0 }
abbrev rmX0_timeOf : Room := { frames := 0, cells := 0, slots := 0, locals := 0 }
abbrev rmX0_placeOf : Room := { frames := 0, cells := 0, slots := 0, locals := 0 }
abbrev rmX0_valueOf : Room := { frames := 0, cells := 0, slots := 0, locals := 0 }
abbrev rmX0_isFitting : Room := { frames := 0, cells := 0, slots := 0, locals := 0 }
abbrev rmX0_hasAcross : Room := { frames := 0, cells := 0, slots := 0, locals := 0 }
abbrev rmX0_acrossOf : Room := { frames := 0, cells := 0, slots := 0, locals := 0 }
abbrev rmX0_timesHangTogether : Room := { frames := 1, cells := 0, slots := 0, locals := 20 }
abbrev rmX0_moreAlong : Room := { frames := 1, cells := 0, slots := 0, locals := 20 }
abbrev rmX0_countGroups : Room := { frames := 1, cells := 0, slots := 0, locals := 22 }
abbrev rmX0_isFirstOfGroup : Room := { frames := 0, cells := 0, slots := 0, locals := 0 }
abbrev rmJ7_fill_53178 : Room := { frames := 0, cells := 0, slots := 0, locals := 0 }
abbrev rmX1_count : Room := { frames := 0, cells := 0, slots := 0, locals := 0 }
abbrev rmX1_add : Room := { frames := 0, cells := 0, slots := 0, locals := 0 }
abbrev rmX1_putCost : Room := { frames := 1, cells := 0, slots := 0, locals := 22 }
abbrev rmX1_costOf : Room := { frames := 0, cells := 0, slots := 0, locals := 0 }
abbrev rmX1_leastCosts : Room := { frames := 4, cells := 0, slots := 0, locals := 93 }
abbrev rmX1_stepOf : Room := { frames := 4, cells := 0, slots := 0, locals := 93 }
abbrev rmX1_allBut : Room := { frames := 1, cells := 0, slots := 0, locals := 21 }
abbrev rmX1_without : Room := { frames := 0, cells := 0, slots := 0, locals := 0 }
abbrev rmX1_has : Room := { frames := 0, cells := 0, slots := 0, locals := 0 }
abbrev rmX1_restOf : Room := { frames := 0, cells := 0, slots := 0, locals := 0 }
abbrev rmX1_weighAll : Room := { frames := 3, cells := 0, slots := 0, locals := 71 }
abbrev rmX1_throughStep : Room := { frames := 1, cells := 0, slots := 0, locals := 22 }
abbrev rmX1_lesserStep : Room := { frames := 2, cells := 0, slots := 0, locals := 45 }
abbrev rmX2_renew : Room := { frames := 1, cells := 0, slots := 0, locals := 23 }
abbrev rmX2_places : Room := { frames := 0, cells := 0, slots := 0, locals := 0 }
abbrev rmX2_nextLaw : Room := { frames := 0, cells := 0, slots := 0, locals := 0 }
abbrev rmX2_bendLaw : Room := { frames := 0, cells := 0, slots := 0, locals := 0 }
abbrev rmX2_mainSpread : Room := { frames := 0, cells := 0, slots := 0, locals := 0 }
abbrev rmX2_sideSpread : Room := { frames := 0, cells := 0, slots := 0, locals := 0 }
abbrev rmX2_baseOf : Room := { frames := 0, cells := 0, slots := 0, locals := 0 }
abbrev rmX2_settingOf : Room := { frames := 0, cells := 0, slots := 0, locals := 0 }
abbrev rmX2_putLaws : Room := { frames := 0, cells := 0, slots := 0, locals := 0 }
abbrev rmX2_putSpread : Room := { frames := 0, cells := 0, slots := 0, locals := 0 }
abbrev rmX2_putBase : Room := { frames := 0, cells := 0, slots := 0, locals := 0 }
abbrev rmX2_trySetting : Room := { frames := 2, cells := 0, slots := 0, locals := 47 }
abbrev rmX2_isLawful : Room := { frames := 1, cells := 0, slots := 0, locals := 24 }
abbrev rmX2_errorOf : Room := { frames := 0, cells := 0, slots := 0, locals := 0 }
abbrev rmX2_sizeOf : Room := { frames := 1, cells := 0, slots := 0, locals := 24 }
abbrev rmX2_unevenness : Room := { frames := 2, cells := 0, slots := 0, locals := 46 }
abbrev rmX2_together : Room := { frames := 1, cells := 0, slots := 0, locals := 24 }
abbrev rmX2_settle : Room := { frames := 4, cells := 0, slots := 0, locals := 105 }
abbrev rmX2_weighLast : Room := { frames := 1, cells := 0, slots := 0, locals := 24 }
abbrev rmX2_weigh : Room := { frames := 3, cells := 0, slots := 0, locals := 79 }
abbrev rmX2_leastRest : Room := { frames := 2, cells := 0, slots := 0, locals := 46 }
abbrev rmX2_settleFirstTwo : Room := { frames := 2, cells := 0, slots := 0, locals := 46 }
abbrev rmX2_lesserAfter : Room := { frames := 2, cells := 0, slots := 0, locals := 46 }
abbrev rmX2_lowestAfter : Room := { frames := 1, cells := 0, slots := 0, locals := 24 }
abbrev rmX2_highestAfter : Room := { frames := 1, cells := 0, slots := 0, locals := 24 }
abbrev rmX2_spot : Room := { frames := 0, cells := 0, slots := 0, locals := 0 }
abbrev rmX3_forget : Room := { frames := 0, cells := 0, slots := 0, locals := 0 }
abbrev rmX3_count : Room := { frames := 0, cells := 0, slots := 0, locals := 0 }
abbrev rmX3_add : Room := { frames := 0, cells := 0, slots := 0, locals := 0 }
abbrev rmX3_lies : Room := { frames := 2, cells := 0, slots := 0, locals := 45 }
abbrev rmX3_plan : Room := { frames := 4, cells := 0, slots := 0, locals := 94 }
abbrev rmX3_weigh : Room := { frames := 3, cells := 0, slots := 0, locals := 69 }
abbrev rmX3_dropCovered : Room := { frames := 0, cells := 0, slots := 0, locals := 0 }
abbrev rmX3_plannedAt : Room := { frames := 0, cells := 0, slots := 0, locals := 0 }
abbrev rmX4_sheet : Room := { frames := 2, cells := 0, slots := 0, locals := 44 }
abbrev rmX4_read : Room := { frames := 2, cells := 0, slots := 0, locals := 51 }
abbrev rmX4_reading : Room := { frames := 1, cells := 0, slots := 0, locals := 22 }
abbrev rmX4_across : Room := { frames := 2, cells := 0, slots := 0, locals := 43 }
abbrev rmX4_along : Room := { frames := 2, cells := 0, slots := 0, locals := 42 }
abbrev rmX4_groups : Room := { frames := 2, cells := 0, slots := 0, locals := 45 }
abbrev rmX4_take : Room := { frames := 1, cells := 0, slots := 0, locals := 22 }
abbrev rmX4_clear : Room := { frames := 1, cells := 0, slots := 0, locals := 21 }
abbrev rmX4_laws : Room := { frames := 2, cells := 0, slots := 0, locals := 47 }
abbrev rmX4_spread : Room := { frames := 1, cells := 0, slots := 0, locals := 22 }
abbrev rmX4_base : Room := { frames := 2, cells := 0, slots := 0, locals := 43 }
abbrev rmX4_set : Room := { frames := 3, cells := 0, slots := 0, locals := 70 }
abbrev rmX4_about : Room := { frames := 2, cells := 0, slots := 0, locals := 43 }
abbrev rmX4_uneven : Room := { frames := 3, cells := 0, slots := 0, locals := 69 }
abbrev rmX4_best : Room := { frames := 5, cells := 0, slots := 0, locals := 129 }
abbrev rmX4_kind : Room := { frames := 1, cells := 0, slots := 0, locals := 23 }
abbrev rmX4_canLie : Room := { frames := 3, cells := 0, slots := 0, locals := 69 }
abbrev rmX4_cut : Room := { frames := 5, cells := 0, slots := 0, locals := 116 }
abbrev rmX4_cutAt : Room := { frames := 5, cells := 0, slots := 0, locals := 116 }
abbrev rmX4_grade : Room := { frames := 1, cells := 0, slots := 0, locals := 20 }
abbrev rmX4_cost : Room := { frames := 2, cells := 0, slots := 0, locals := 46 }
abbrev rmX4_tour : Room := { frames := 5, cells := 0, slots := 0, locals := 114 }
abbrev rmX4_tourAt : Room := { frames := 5, cells := 0, slots := 0, locals := 118 }
abbrev rmX4_told : Room := { frames := 1, cells := 0, slots := 0, locals := 20 }
abbrev rmX4_isPlace : Room := { frames := 1, cells := 0, slots := 0, locals := 22 }
abbrev rmX4_isGrade : Room := { frames := 1, cells := 0, slots := 0, locals := 22 }
abbrev rmX4_isTime : Room := { frames := 1, cells := 0, slots := 0, locals := 22 }
abbrev rmX4_within : Room := { frames := 0, cells := 0, slots := 0, locals := 0 }
abbrev rmX5_in : Room := { frames := 0, cells := 0, slots := 0, locals := 0 }
abbrev rmX5_size : Room := { frames := 0, cells := 0, slots := 0, locals := 0 }
abbrev rmX5_isPlace : Room := { frames := 1, cells := 0, slots := 0, locals := 22 }
abbrev rmX5_begin : Room := { frames := 0, cells := 0, slots := 0, locals := 0 }
abbrev rmX5_sheet : Room := { frames := 1, cells := 0, slots := 0, locals := 22 }
abbrev rmX5_read : Room := { frames := 2, cells := 0, slots := 0, locals := 43 }
abbrev rmX5_reading : Room := { frames := 1, cells := 0, slots := 0, locals := 22 }
abbrev rmX5_isAcross : Room := { frames := 0, cells := 0, slots := 0, locals := 0 }
abbrev rmX5_acrossOf : Room := { frames := 0, cells := 0, slots := 0, locals := 0 }
abbrev rmX5_across : Room := { frames := 2, cells := 0, slots := 0, locals := 43 }
abbrev rmX5_along : Room := { frames := 1, cells := 0, slots := 0, locals := 22 }
abbrev rmX5_groups : Room := { frames := 0, cells := 0, slots := 0, locals := 0 }
abbrev rmX5_take : Room := { frames := 1, cells := 0, slots := 0, locals := 22 }
abbrev rmX5_clear : Room := { frames := 1, cells := 0, slots := 0, locals := 21 }
abbrev rmX5_areLawful : Room := { frames := 1, cells := 0, slots := 0, locals := 20 }
abbrev rmX5_laws : Room := { frames := 2, cells := 0, slots := 0, locals := 44 }
abbrev rmX5_spread : Room := { frames := 1, cells := 0, slots := 0, locals := 22 }
abbrev rmX5_base : Room := { frames := 2, cells := 0, slots := 0, locals := 43 }
abbrev rmX5_set : Room := { frames := 2, cells := 0, slots := 0, locals := 44 }
abbrev rmX5_error : Room := { frames := 0, cells := 0, slots := 0, locals := 0 }
abbrev rmX5_about : Room := { frames := 2, cells := 0, slots := 0, locals := 43 }
abbrev rmX5_with : Room := { frames := 0, cells := 0, slots := 0, locals := 0 }
abbrev rmX5_unevenOf : Room := { frames := 1, cells := 0, slots := 0, locals := 23 }
abbrev rmX5_uneven : Room := { frames := 2, cells := 0, slots := 0, locals := 46 }
abbrev rmX5_goes : Room := { frames := 1, cells := 0, slots := 0, locals := 20 }
abbrev rmX5_layLeast : Room := { frames := 2, cells := 0, slots := 0, locals := 44 }
abbrev rmX5_best : Room := { frames := 3, cells := 0, slots := 0, locals := 73 }
abbrev rmX5_kind : Room := { frames := 1, cells := 0, slots := 0, locals := 22 }
abbrev rmX5_lies : Room := { frames := 1, cells := 0, slots := 0, locals := 23 }
abbrev rmX5_canLie : Room := { frames := 2, cells := 0, slots := 0, locals := 47 }
abbrev rmX5_layCut : Room := { frames := 2, cells := 0, slots := 0, locals := 47 }
abbrev rmX5_cut : Room := { frames := 3, cells := 0, slots := 0, locals := 70 }
abbrev rmX5_cutAt : Room := { frames := 3, cells := 0, slots := 0, locals := 70 }
abbrev rmX5_grade : Room := { frames := 0, cells := 0, slots := 0, locals := 0 }
abbrev rmX5_isGrade : Room := { frames := 1, cells := 0, slots := 0, locals := 22 }
abbrev rmX5_cost : Room := { frames := 2, cells := 0, slots := 0, locals := 43 }
abbrev rmX5_layRest : Room := { frames := 0, cells := 0, slots := 0, locals := 0 }
abbrev rmX5_tour : Room := { frames := 2, cells := 0, slots := 0, locals := 43 }
abbrev rmX5_tourAt : Room := { frames := 2, cells := 0, slots := 0, locals := 43 }
abbrev rmX5_fitting : Room := { frames := 0, cells := 0, slots := 0, locals := 0 }
abbrev rmX5_told : Room := { frames := 1, cells := 0, slots := 0, locals := 22 }
theorem inX0_forget_X0 : ∀ w ∈ wsX00, w ∈ wsX0_forget := fun w h => List.mem_cons_of_mem _ (List.mem_append_right _ h)
theorem pX0_forget_34 : aFP wsX0_forget RX0 34 0 4 false := ⟨_, _, _, tyX0, rfl, inX0_forget_X0, tyX0_ok, nmX0, by decide, by decide +kernel, rfl, rfl⟩
theorem pX0_forget_38 : aFP wsX0_forget RX0 38 0 5 false := ⟨_, _, _, tyX0, rfl, inX0_forget_X0, tyX0_ok, nmX0, by decide, by decide +kernel, rfl, rfl⟩
theorem fX0_forget_25 : aFL wsX0_forget RX0 25 0 6 := ⟨_, _, _, rfl, inX0_forget_X0, by decide, by decide +kernel⟩
theorem fX0_forget_28 : aFL wsX0_forget RX0 28 0 7 := ⟨_, _, _, rfl, inX0_forget_X0, by decide, by decide +kernel⟩
theorem vX0_add_41 : aCS wsX0_add rmX0_add RX0 41 yX0_knotOfTime wsX0_knotOfTime rmX0_knotOfTime 1 := ⟨_, _, _, _, gX0_add_X0_knotOfTime, rfl, rfl, rfl, ⟨by decide +kernel, by decide +kernel, by decide +kernel⟩, by decide⟩
theorem vX0_add_45 : aCV wsX0_add rmX0_add RX0 45 0 yX0_fit wsX0_fit rmX0_fit 3 := ⟨TX0, _, _, _, _, _, rfl, gX0_add_X0_fit, rfl, rfl, rfl, ⟨by decide +kernel, by decide +kernel, by decide +kernel⟩, by decide⟩
theorem inX0_add_X0 : ∀ w ∈ wsX00, w ∈ wsX0_add := fun w h => List.mem_cons_of_mem _ (List.mem_append_right _ h)
theorem fX0_add_9 : aFL wsX0_add RX0 9 0 0 := ⟨_, _, _, rfl, inX0_add_X0, by decide, by decide +kernel⟩
theorem fX0_add_34 : aFL wsX0_add RX0 34 0 4 := ⟨_, _, _, rfl, inX0_add_X0, by decide, by decide +kernel⟩
theorem fX0_add_15 : aFL wsX0_add RX0 15 0 1 := ⟨_, _, _, rfl, inX0_add_X0, by decide, by decide +kernel⟩
theorem fX0_add_18 : aFL wsX0_add RX0 18 0 2 := ⟨_, _, _, rfl, inX0_add_X0, by decide, by decide +kernel⟩
theorem fX0_add_21 : aFL wsX0_add RX0 21 0 3 := ⟨_, _, _, rfl, inX0_add_X0, by decide, by decide +kernel⟩
theorem pX0_add_34 : aFP wsX0_add RX0 34 0 4 false := ⟨_, _, _, tyX0, rfl, inX0_add_X0, tyX0_ok, nmX0, by decide, by decide +kernel, rfl, rfl⟩
theorem fX0_add_38 : aFL wsX0_add RX0 38 0 5 := ⟨_, _, _, rfl, inX0_add_X0, by decide, by decide +kernel⟩
theorem pX0_add_38 : aFP wsX0_add RX0 38 0 5 false := ⟨_, _, _, tyX0, rfl, inX0_add_X0, tyX0_ok, nmX0, by decide, by decide +kernel, rfl, rfl⟩
theorem inX0_fit_X0 : ∀ w ∈ wsX00, w ∈ wsX0_fit := fun w h => List.mem_cons_of_mem _ (List.mem_append_right _ h)
theorem fX0_fit_25 : aFL wsX0_fit RX0 25 0 6 := ⟨_, _, _, rfl, inX0_fit_X0, by decide, by decide +kernel⟩
theorem fX0_fit_28 : aFL wsX0_fit RX0 28 0 7 := ⟨_, _, _, rfl, inX0_fit_X0, by decide, by decide +kernel⟩
theorem inX0_count_X0 : ∀ w ∈ wsX00, w ∈ wsX0_count := fun w h => List.mem_cons_of_mem _ (List.mem_append_right _ h)
theorem fX0_count_34 : aFL wsX0_count RX0 34 0 4 := ⟨_, _, _, rfl, inX0_count_X0, by decide, by decide +kernel⟩
theorem inX0_fittingCount_X0 : ∀ w ∈ wsX00, w ∈ wsX0_fittingCount := fun w h => List.mem_cons_of_mem _ (List.mem_append_right _ h)
theorem fX0_fittingCount_38 : aFL wsX0_fittingCount RX0 38 0 5 := ⟨_, _, _, rfl, inX0_fittingCount_X0, by decide, by decide +kernel⟩
theorem inX0_timeOf_X0 : ∀ w ∈ wsX00, w ∈ wsX0_timeOf := fun w h => List.mem_cons_of_mem _ (List.mem_append_right _ h)
theorem fX0_timeOf_9 : aFL wsX0_timeOf RX0 9 0 0 := ⟨_, _, _, rfl, inX0_timeOf_X0, by decide, by decide +kernel⟩
theorem inX0_placeOf_X0 : ∀ w ∈ wsX00, w ∈ wsX0_placeOf := fun w h => List.mem_cons_of_mem _ (List.mem_append_right _ h)
theorem fX0_placeOf_15 : aFL wsX0_placeOf RX0 15 0 1 := ⟨_, _, _, rfl, inX0_placeOf_X0, by decide, by decide +kernel⟩
theorem inX0_valueOf_X0 : ∀ w ∈ wsX00, w ∈ wsX0_valueOf := fun w h => List.mem_cons_of_mem _ (List.mem_append_right _ h)
theorem fX0_valueOf_18 : aFL wsX0_valueOf RX0 18 0 2 := ⟨_, _, _, rfl, inX0_valueOf_X0, by decide, by decide +kernel⟩
theorem inX0_isFitting_X0 : ∀ w ∈ wsX00, w ∈ wsX0_isFitting := fun w h => List.mem_cons_of_mem _ (List.mem_append_right _ h)
theorem fX0_isFitting_21 : aFL wsX0_isFitting RX0 21 0 3 := ⟨_, _, _, rfl, inX0_isFitting_X0, by decide, by decide +kernel⟩
theorem inX0_hasAcross_X0 : ∀ w ∈ wsX00, w ∈ wsX0_hasAcross := fun w h => List.mem_cons_of_mem _ (List.mem_append_right _ h)
theorem fX0_hasAcross_25 : aFL wsX0_hasAcross RX0 25 0 6 := ⟨_, _, _, rfl, inX0_hasAcross_X0, by decide, by decide +kernel⟩
theorem inX0_acrossOf_X0 : ∀ w ∈ wsX00, w ∈ wsX0_acrossOf := fun w h => List.mem_cons_of_mem _ (List.mem_append_right _ h)
theorem fX0_acrossOf_28 : aFL wsX0_acrossOf RX0 28 0 7 := ⟨_, _, _, rfl, inX0_acrossOf_X0, by decide, by decide +kernel⟩
theorem inX0_timesHangTogether_X0 : ∀ w ∈ wsX00, w ∈ wsX0_timesHangTogether := fun w h => List.mem_cons_of_mem _ (List.mem_append_right _ h)
theorem fX0_timesHangTogether_25 : aFL wsX0_timesHangTogether RX0 25 0 6 := ⟨_, _, _, rfl, inX0_timesHangTogether_X0, by decide, by decide +kernel⟩
theorem vX0_timesHangTogether_41 : aCS wsX0_timesHangTogether rmX0_timesHangTogether RX0 41 yX0_knotOfTime wsX0_knotOfTime rmX0_knotOfTime 1 := ⟨_, _, _, _, gX0_timesHangTogether_X0_knotOfTime, rfl, rfl, rfl, ⟨by decide +kernel, by decide +kernel, by decide +kernel⟩, by decide⟩
theorem inX0_moreAlong_X0 : ∀ w ∈ wsX00, w ∈ wsX0_moreAlong := fun w h => List.mem_cons_of_mem _ (List.mem_append_right _ h)
theorem fX0_moreAlong_28 : aFL wsX0_moreAlong RX0 28 0 7 := ⟨_, _, _, rfl, inX0_moreAlong_X0, by decide, by decide +kernel⟩
theorem vX0_moreAlong_41 : aCS wsX0_moreAlong rmX0_moreAlong RX0 41 yX0_knotOfTime wsX0_knotOfTime rmX0_knotOfTime 1 := ⟨_, _, _, _, gX0_moreAlong_X0_knotOfTime, rfl, rfl, rfl, ⟨by decide +kernel, by decide +kernel, by decide +kernel⟩, by decide⟩
theorem vX0_countGroups_49 : aCV wsX0_countGroups rmX0_countGroups RX0 49 0 yX0_isFirstOfGroup wsX0_isFirstOfGroup rmX0_isFirstOfGroup 1 := ⟨TX0, _, _, _, _, _, rfl, gX0_countGroups_X0_isFirstOfGroup, rfl, rfl, rfl, ⟨by decide +kernel, by decide +kernel, by decide +kernel⟩, by decide⟩
theorem inX0_isFirstOfGroup_X0 : ∀ w ∈ wsX00, w ∈ wsX0_isFirstOfGroup := fun w h => List.mem_cons_of_mem _ (List.mem_append_right _ h)
theorem fX0_isFirstOfGroup_25 : aFL wsX0_isFirstOfGroup RX0 25 0 6 := ⟨_, _, _, rfl, inX0_isFirstOfGroup_X0, by decide, by decide +kernel⟩
