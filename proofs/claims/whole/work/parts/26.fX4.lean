theorem vX4_sheet_39 : aCS wsX4_sheet rmX4_sheet RX4 39 yX4_within wsX4_within rmX4_within 3 := ⟨_, _, _, _, gX4_sheet_X4_within, rfl, rfl, rfl, ⟨by decide +kernel, by decide +kernel, by decide +kernel⟩, by decide⟩
theorem inX4_sheet_X4 : ∀ w ∈ wsX40, w ∈ wsX4_sheet := fun w h => List.mem_cons_of_mem _ (List.mem_append_left _ (List.mem_append_left _ (List.mem_append_left _ (List.mem_append_right _ h))))
theorem fX4_sheet_19 : aFL wsX4_sheet RX4 19 4 1 := ⟨_, _, _, rfl, inX4_sheet_X4, by decide, by decide +kernel⟩
theorem vX4_sheet_43 : aCV wsX4_sheet rmX4_sheet RX4 43 2 yX2_places wsX2_places rmX2_places 0 := ⟨TX2, _, _, _, _, _, rfl, gX4_sheet_X2_places, rfl, rfl, rfl, ⟨by decide +kernel, by decide +kernel, by decide +kernel⟩, by decide⟩
theorem fX4_sheet_10 : aFL wsX4_sheet RX4 10 4 0 := ⟨_, _, _, rfl, inX4_sheet_X4, by decide, by decide +kernel⟩
theorem vX4_sheet_47 : aCV wsX4_sheet rmX4_sheet RX4 47 0 yX0_forget wsX0_forget rmX0_forget 0 := ⟨TX0, _, _, _, _, _, rfl, gX4_sheet_X0_forget, rfl, rfl, rfl, ⟨by decide +kernel, by decide +kernel, by decide +kernel⟩, by decide⟩
theorem fX4_sheet_28 : aFL wsX4_sheet RX4 28 4 2 := ⟨_, _, _, rfl, inX4_sheet_X4, by decide, by decide +kernel⟩
theorem vX4_sheet_50 : aCV wsX4_sheet rmX4_sheet RX4 50 3 yX3_forget wsX3_forget rmX3_forget 0 := ⟨TX3, _, _, _, _, _, rfl, gX4_sheet_X3_forget, rfl, rfl, rfl, ⟨by decide +kernel, by decide +kernel, by decide +kernel⟩, by decide⟩
theorem vX4_sheet_51 : aCV wsX4_sheet rmX4_sheet RX4 51 2 yX2_renew wsX2_renew rmX2_renew 1 := ⟨TX2, _, _, _, _, _, rfl, gX4_sheet_X2_renew, rfl, rfl, rfl, ⟨by decide +kernel, by decide +kernel, by decide +kernel⟩, by decide⟩
theorem vX4_read_55 : aCV wsX4_read rmX4_read RX4 55 4 yX4_isPlace wsX4_isPlace rmX4_isPlace 1 := ⟨TX4, _, _, _, _, _, rfl, gX4_read_X4_isPlace, rfl, rfl, rfl, ⟨by decide +kernel, by decide +kernel, by decide +kernel⟩, by decide⟩
theorem vX4_read_59 : aCS wsX4_read rmX4_read RX4 59 yX4_isTime wsX4_isTime rmX4_isTime 1 := ⟨_, _, _, _, gX4_read_X4_isTime, rfl, rfl, rfl, ⟨by decide +kernel, by decide +kernel, by decide +kernel⟩, by decide⟩
theorem vX4_read_39 : aCS wsX4_read rmX4_read RX4 39 yX4_within wsX4_within rmX4_within 3 := ⟨_, _, _, _, gX4_read_X4_within, rfl, rfl, rfl, ⟨by decide +kernel, by decide +kernel, by decide +kernel⟩, by decide⟩
theorem inX4_read_X4 : ∀ w ∈ wsX40, w ∈ wsX4_read := fun w h => List.mem_cons_of_mem _ (List.mem_append_left _ (List.mem_append_left _ (List.mem_append_right _ h)))
theorem fX4_read_10 : aFL wsX4_read RX4 10 4 0 := ⟨_, _, _, rfl, inX4_read_X4, by decide, by decide +kernel⟩
theorem vX4_read_62 : aCV wsX4_read rmX4_read RX4 62 0 yX0_count wsX0_count rmX0_count 0 := ⟨TX0, _, _, _, _, _, rfl, gX4_read_X0_count, rfl, rfl, rfl, ⟨by decide +kernel, by decide +kernel, by decide +kernel⟩, by decide⟩
theorem vX4_read_65 : aCV wsX4_read rmX4_read RX4 65 0 yX0_add wsX0_add rmX0_add 3 := ⟨TX0, _, _, _, _, _, rfl, gX4_read_X0_add, rfl, rfl, rfl, ⟨by decide +kernel, by decide +kernel, by decide +kernel⟩, by decide⟩
theorem inX4_reading_X4 : ∀ w ∈ wsX40, w ∈ wsX4_reading := fun w h => List.mem_cons_of_mem _ (List.mem_append_left _ (List.mem_append_right _ h))
theorem fX4_reading_10 : aFL wsX4_reading RX4 10 4 0 := ⟨_, _, _, rfl, inX4_reading_X4, by decide, by decide +kernel⟩
theorem vX4_reading_62 : aCV wsX4_reading rmX4_reading RX4 62 0 yX0_count wsX0_count rmX0_count 0 := ⟨TX0, _, _, _, _, _, rfl, gX4_reading_X0_count, rfl, rfl, rfl, ⟨by decide +kernel, by decide +kernel, by decide +kernel⟩, by decide⟩
theorem vX4_reading_39 : aCS wsX4_reading rmX4_reading RX4 39 yX4_within wsX4_within rmX4_within 3 := ⟨_, _, _, _, gX4_reading_X4_within, rfl, rfl, rfl, ⟨by decide +kernel, by decide +kernel, by decide +kernel⟩, by decide⟩
theorem kX4_reading_68 : Cond.constant RX4 68 (i3 (-1000001)) ∈ wsX4_reading := by decide +kernel
theorem vX4_reading_69 : aCV wsX4_reading rmX4_reading RX4 69 0 yX0_timeOf wsX0_timeOf rmX0_timeOf 1 := ⟨TX0, _, _, _, _, _, rfl, gX4_reading_X0_timeOf, rfl, rfl, rfl, ⟨by decide +kernel, by decide +kernel, by decide +kernel⟩, by decide⟩
theorem vX4_reading_73 : aCV wsX4_reading rmX4_reading RX4 73 0 yX0_placeOf wsX0_placeOf rmX0_placeOf 1 := ⟨TX0, _, _, _, _, _, rfl, gX4_reading_X0_placeOf, rfl, rfl, rfl, ⟨by decide +kernel, by decide +kernel, by decide +kernel⟩, by decide⟩
theorem vX4_reading_76 : aCV wsX4_reading rmX4_reading RX4 76 0 yX0_valueOf wsX0_valueOf rmX0_valueOf 1 := ⟨TX0, _, _, _, _, _, rfl, gX4_reading_X0_valueOf, rfl, rfl, rfl, ⟨by decide +kernel, by decide +kernel, by decide +kernel⟩, by decide⟩
theorem vX4_reading_79 : aCV wsX4_reading rmX4_reading RX4 79 0 yX0_isFitting wsX0_isFitting rmX0_isFitting 1 := ⟨TX0, _, _, _, _, _, rfl, gX4_reading_X0_isFitting, rfl, rfl, rfl, ⟨by decide +kernel, by decide +kernel, by decide +kernel⟩, by decide⟩
theorem kX4_reading_82 : Cond.constant RX4 82 (i3 (-1000002)) ∈ wsX4_reading := by decide +kernel
theorem vX4_across_55 : aCV wsX4_across rmX4_across RX4 55 4 yX4_isPlace wsX4_isPlace rmX4_isPlace 1 := ⟨TX4, _, _, _, _, _, rfl, gX4_across_X4_isPlace, rfl, rfl, rfl, ⟨by decide +kernel, by decide +kernel, by decide +kernel⟩, by decide⟩
theorem kX4_across_68 : Cond.constant RX4 68 (i3 (-1000001)) ∈ wsX4_across := by decide +kernel
theorem inX4_across_X4 : ∀ w ∈ wsX40, w ∈ wsX4_across := fun w h => List.mem_cons_of_mem _ (List.mem_append_left _ (List.mem_append_left _ (List.mem_append_right _ h)))
theorem fX4_across_10 : aFL wsX4_across RX4 10 4 0 := ⟨_, _, _, rfl, inX4_across_X4, by decide, by decide +kernel⟩
theorem vX4_across_83 : aCV wsX4_across rmX4_across RX4 83 0 yX0_hasAcross wsX0_hasAcross rmX0_hasAcross 1 := ⟨TX0, _, _, _, _, _, rfl, gX4_across_X0_hasAcross, rfl, rfl, rfl, ⟨by decide +kernel, by decide +kernel, by decide +kernel⟩, by decide⟩
theorem vX4_across_86 : aCV wsX4_across rmX4_across RX4 86 0 yX0_acrossOf wsX0_acrossOf rmX0_acrossOf 1 := ⟨TX0, _, _, _, _, _, rfl, gX4_across_X0_acrossOf, rfl, rfl, rfl, ⟨by decide +kernel, by decide +kernel, by decide +kernel⟩, by decide⟩
theorem kX4_across_89 : Cond.constant RX4 89 (i3 (-1000005)) ∈ wsX4_across := by decide +kernel
theorem vX4_along_59 : aCS wsX4_along rmX4_along RX4 59 yX4_isTime wsX4_isTime rmX4_isTime 1 := ⟨_, _, _, _, gX4_along_X4_isTime, rfl, rfl, rfl, ⟨by decide +kernel, by decide +kernel, by decide +kernel⟩, by decide⟩
theorem kX4_along_68 : Cond.constant RX4 68 (i3 (-1000001)) ∈ wsX4_along := by decide +kernel
theorem inX4_along_X4 : ∀ w ∈ wsX40, w ∈ wsX4_along := fun w h => List.mem_cons_of_mem _ (List.mem_append_left _ (List.mem_append_right _ h))
theorem fX4_along_10 : aFL wsX4_along RX4 10 4 0 := ⟨_, _, _, rfl, inX4_along_X4, by decide, by decide +kernel⟩
theorem vX4_along_90 : aCV wsX4_along rmX4_along RX4 90 0 yX0_timesHangTogether wsX0_timesHangTogether rmX0_timesHangTogether 2 := ⟨TX0, _, _, _, _, _, rfl, gX4_along_X0_timesHangTogether, rfl, rfl, rfl, ⟨by decide +kernel, by decide +kernel, by decide +kernel⟩, by decide⟩
theorem vX4_along_94 : aCV wsX4_along rmX4_along RX4 94 0 yX0_moreAlong wsX0_moreAlong rmX0_moreAlong 2 := ⟨TX0, _, _, _, _, _, rfl, gX4_along_X0_moreAlong, rfl, rfl, rfl, ⟨by decide +kernel, by decide +kernel, by decide +kernel⟩, by decide⟩
theorem kX4_along_89 : Cond.constant RX4 89 (i3 (-1000005)) ∈ wsX4_along := by decide +kernel
theorem inX4_groups_X4 : ∀ w ∈ wsX40, w ∈ wsX4_groups := fun w h => List.mem_cons_of_mem _ (List.mem_append_left _ (List.mem_append_left _ (List.mem_append_right _ h)))
theorem fX4_groups_10 : aFL wsX4_groups RX4 10 4 0 := ⟨_, _, _, rfl, inX4_groups_X4, by decide, by decide +kernel⟩
theorem fX4_groups_19 : aFL wsX4_groups RX4 19 4 1 := ⟨_, _, _, rfl, inX4_groups_X4, by decide, by decide +kernel⟩
theorem vX4_groups_43 : aCV wsX4_groups rmX4_groups RX4 43 2 yX2_places wsX2_places rmX2_places 0 := ⟨TX2, _, _, _, _, _, rfl, gX4_groups_X2_places, rfl, rfl, rfl, ⟨by decide +kernel, by decide +kernel, by decide +kernel⟩, by decide⟩
theorem vX4_groups_98 : aCV wsX4_groups rmX4_groups RX4 98 0 yX0_countGroups wsX0_countGroups rmX0_countGroups 1 := ⟨TX0, _, _, _, _, _, rfl, gX4_groups_X0_countGroups, rfl, rfl, rfl, ⟨by decide +kernel, by decide +kernel, by decide +kernel⟩, by decide⟩
theorem inX4_take_X4 : ∀ w ∈ wsX40, w ∈ wsX4_take := fun w h => List.mem_cons_of_mem _ (List.mem_append_left _ (List.mem_append_left _ (List.mem_append_right _ h)))
theorem fX4_take_19 : aFL wsX4_take RX4 19 4 1 := ⟨_, _, _, rfl, inX4_take_X4, by decide, by decide +kernel⟩
theorem vX4_take_43 : aCV wsX4_take rmX4_take RX4 43 2 yX2_places wsX2_places rmX2_places 0 := ⟨TX2, _, _, _, _, _, rfl, gX4_take_X2_places, rfl, rfl, rfl, ⟨by decide +kernel, by decide +kernel, by decide +kernel⟩, by decide⟩
theorem fX4_take_10 : aFL wsX4_take RX4 10 4 0 := ⟨_, _, _, rfl, inX4_take_X4, by decide, by decide +kernel⟩
theorem vX4_take_83 : aCV wsX4_take rmX4_take RX4 83 0 yX0_hasAcross wsX0_hasAcross rmX0_hasAcross 1 := ⟨TX0, _, _, _, _, _, rfl, gX4_take_X0_hasAcross, rfl, rfl, rfl, ⟨by decide +kernel, by decide +kernel, by decide +kernel⟩, by decide⟩
theorem vX4_take_86 : aCV wsX4_take rmX4_take RX4 86 0 yX0_acrossOf wsX0_acrossOf rmX0_acrossOf 1 := ⟨TX0, _, _, _, _, _, rfl, gX4_take_X0_acrossOf, rfl, rfl, rfl, ⟨by decide +kernel, by decide +kernel, by decide +kernel⟩, by decide⟩
theorem vX4_take_39 : aCS wsX4_take rmX4_take RX4 39 yX4_within wsX4_within rmX4_within 3 := ⟨_, _, _, _, gX4_take_X4_within, rfl, rfl, rfl, ⟨by decide +kernel, by decide +kernel, by decide +kernel⟩, by decide⟩
theorem vX4_take_101 : aCV wsX4_take rmX4_take RX4 101 2 yX2_putBase wsX2_putBase rmX2_putBase 2 := ⟨TX2, _, _, _, _, _, rfl, gX4_take_X2_putBase, rfl, rfl, rfl, ⟨by decide +kernel, by decide +kernel, by decide +kernel⟩, by decide⟩
theorem inX4_clear_X4 : ∀ w ∈ wsX40, w ∈ wsX4_clear := fun w h => List.mem_cons_of_mem _ (List.mem_append_left _ (List.mem_append_right _ h))
theorem fX4_clear_10 : aFL wsX4_clear RX4 10 4 0 := ⟨_, _, _, rfl, inX4_clear_X4, by decide, by decide +kernel⟩
theorem vX4_clear_62 : aCV wsX4_clear rmX4_clear RX4 62 0 yX0_count wsX0_count rmX0_count 0 := ⟨TX0, _, _, _, _, _, rfl, gX4_clear_X0_count, rfl, rfl, rfl, ⟨by decide +kernel, by decide +kernel, by decide +kernel⟩, by decide⟩
theorem vX4_clear_47 : aCV wsX4_clear rmX4_clear RX4 47 0 yX0_forget wsX0_forget rmX0_forget 0 := ⟨TX0, _, _, _, _, _, rfl, gX4_clear_X0_forget, rfl, rfl, rfl, ⟨by decide +kernel, by decide +kernel, by decide +kernel⟩, by decide⟩
theorem vX4_laws_39 : aCS wsX4_laws rmX4_laws RX4 39 yX4_within wsX4_within rmX4_within 3 := ⟨_, _, _, _, gX4_laws_X4_within, rfl, rfl, rfl, ⟨by decide +kernel, by decide +kernel, by decide +kernel⟩, by decide⟩
theorem inX4_laws_X4 : ∀ w ∈ wsX40, w ∈ wsX4_laws := fun w h => List.mem_cons_of_mem _ (List.mem_append_left _ (List.mem_append_right _ h))
theorem fX4_laws_19 : aFL wsX4_laws RX4 19 4 1 := ⟨_, _, _, rfl, inX4_laws_X4, by decide, by decide +kernel⟩
theorem vX4_laws_105 : aCV wsX4_laws rmX4_laws RX4 105 2 yX2_isLawful wsX2_isLawful rmX2_isLawful 2 := ⟨TX2, _, _, _, _, _, rfl, gX4_laws_X2_isLawful, rfl, rfl, rfl, ⟨by decide +kernel, by decide +kernel, by decide +kernel⟩, by decide⟩
theorem vX4_laws_108 : aCV wsX4_laws rmX4_laws RX4 108 2 yX2_putLaws wsX2_putLaws rmX2_putLaws 2 := ⟨TX2, _, _, _, _, _, rfl, gX4_laws_X2_putLaws, rfl, rfl, rfl, ⟨by decide +kernel, by decide +kernel, by decide +kernel⟩, by decide⟩
theorem vX4_spread_39 : aCS wsX4_spread rmX4_spread RX4 39 yX4_within wsX4_within rmX4_within 3 := ⟨_, _, _, _, gX4_spread_X4_within, rfl, rfl, rfl, ⟨by decide +kernel, by decide +kernel, by decide +kernel⟩, by decide⟩
theorem inX4_spread_X4 : ∀ w ∈ wsX40, w ∈ wsX4_spread := fun w h => List.mem_cons_of_mem _ (List.mem_append_left _ (List.mem_append_right _ h))
theorem fX4_spread_19 : aFL wsX4_spread RX4 19 4 1 := ⟨_, _, _, rfl, inX4_spread_X4, by decide, by decide +kernel⟩
theorem vX4_spread_111 : aCV wsX4_spread rmX4_spread RX4 111 2 yX2_putSpread wsX2_putSpread rmX2_putSpread 2 := ⟨TX2, _, _, _, _, _, rfl, gX4_spread_X2_putSpread, rfl, rfl, rfl, ⟨by decide +kernel, by decide +kernel, by decide +kernel⟩, by decide⟩
theorem vX4_base_55 : aCV wsX4_base rmX4_base RX4 55 4 yX4_isPlace wsX4_isPlace rmX4_isPlace 1 := ⟨TX4, _, _, _, _, _, rfl, gX4_base_X4_isPlace, rfl, rfl, rfl, ⟨by decide +kernel, by decide +kernel, by decide +kernel⟩, by decide⟩
theorem vX4_base_39 : aCS wsX4_base rmX4_base RX4 39 yX4_within wsX4_within rmX4_within 3 := ⟨_, _, _, _, gX4_base_X4_within, rfl, rfl, rfl, ⟨by decide +kernel, by decide +kernel, by decide +kernel⟩, by decide⟩
theorem inX4_base_X4 : ∀ w ∈ wsX40, w ∈ wsX4_base := fun w h => List.mem_cons_of_mem _ (List.mem_append_left _ (List.mem_append_right _ h))
theorem fX4_base_19 : aFL wsX4_base RX4 19 4 1 := ⟨_, _, _, rfl, inX4_base_X4, by decide, by decide +kernel⟩
theorem vX4_base_101 : aCV wsX4_base rmX4_base RX4 101 2 yX2_putBase wsX2_putBase rmX2_putBase 2 := ⟨TX2, _, _, _, _, _, rfl, gX4_base_X2_putBase, rfl, rfl, rfl, ⟨by decide +kernel, by decide +kernel, by decide +kernel⟩, by decide⟩
theorem vX4_set_55 : aCV wsX4_set rmX4_set RX4 55 4 yX4_isPlace wsX4_isPlace rmX4_isPlace 1 := ⟨TX4, _, _, _, _, _, rfl, gX4_set_X4_isPlace, rfl, rfl, rfl, ⟨by decide +kernel, by decide +kernel, by decide +kernel⟩, by decide⟩
theorem vX4_set_39 : aCS wsX4_set rmX4_set RX4 39 yX4_within wsX4_within rmX4_within 3 := ⟨_, _, _, _, gX4_set_X4_within, rfl, rfl, rfl, ⟨by decide +kernel, by decide +kernel, by decide +kernel⟩, by decide⟩
theorem inX4_set_X4 : ∀ w ∈ wsX40, w ∈ wsX4_set := fun w h => List.mem_cons_of_mem _ (List.mem_append_left _ (List.mem_append_right _ h))
theorem fX4_set_19 : aFL wsX4_set RX4 19 4 1 := ⟨_, _, _, rfl, inX4_set_X4, by decide, by decide +kernel⟩
theorem vX4_set_114 : aCV wsX4_set rmX4_set RX4 114 2 yX2_trySetting wsX2_trySetting rmX2_trySetting 2 := ⟨TX2, _, _, _, _, _, rfl, gX4_set_X2_trySetting, rfl, rfl, rfl, ⟨by decide +kernel, by decide +kernel, by decide +kernel⟩, by decide⟩
theorem vX4_about_55 : aCV wsX4_about rmX4_about RX4 55 4 yX4_isPlace wsX4_isPlace rmX4_isPlace 1 := ⟨TX4, _, _, _, _, _, rfl, gX4_about_X4_isPlace, rfl, rfl, rfl, ⟨by decide +kernel, by decide +kernel, by decide +kernel⟩, by decide⟩
theorem kX4_about_68 : Cond.constant RX4 68 (i3 (-1000001)) ∈ wsX4_about := by decide +kernel
theorem inX4_about_X4 : ∀ w ∈ wsX40, w ∈ wsX4_about := fun w h => List.mem_cons_of_mem _ (List.mem_append_left _ (List.mem_append_right _ h))
theorem fX4_about_19 : aFL wsX4_about RX4 19 4 1 := ⟨_, _, _, rfl, inX4_about_X4, by decide, by decide +kernel⟩
theorem vX4_about_117 : aCV wsX4_about rmX4_about RX4 117 2 yX2_settingOf wsX2_settingOf rmX2_settingOf 1 := ⟨TX2, _, _, _, _, _, rfl, gX4_about_X2_settingOf, rfl, rfl, rfl, ⟨by decide +kernel, by decide +kernel, by decide +kernel⟩, by decide⟩
theorem vX4_about_120 : aCV wsX4_about rmX4_about RX4 120 2 yX2_baseOf wsX2_baseOf rmX2_baseOf 1 := ⟨TX2, _, _, _, _, _, rfl, gX4_about_X2_baseOf, rfl, rfl, rfl, ⟨by decide +kernel, by decide +kernel, by decide +kernel⟩, by decide⟩
theorem vX4_about_123 : aCV wsX4_about rmX4_about RX4 123 2 yX2_errorOf wsX2_errorOf rmX2_errorOf 1 := ⟨TX2, _, _, _, _, _, rfl, gX4_about_X2_errorOf, rfl, rfl, rfl, ⟨by decide +kernel, by decide +kernel, by decide +kernel⟩, by decide⟩
theorem kX4_about_82 : Cond.constant RX4 82 (i3 (-1000002)) ∈ wsX4_about := by decide +kernel
theorem vX4_uneven_39 : aCS wsX4_uneven rmX4_uneven RX4 39 yX4_within wsX4_within rmX4_within 3 := ⟨_, _, _, _, gX4_uneven_X4_within, rfl, rfl, rfl, ⟨by decide +kernel, by decide +kernel, by decide +kernel⟩, by decide⟩
theorem inX4_uneven_X4 : ∀ w ∈ wsX40, w ∈ wsX4_uneven := fun w h => List.mem_cons_of_mem _ (List.mem_append_left _ (List.mem_append_right _ h))
theorem fX4_uneven_19 : aFL wsX4_uneven RX4 19 4 1 := ⟨_, _, _, rfl, inX4_uneven_X4, by decide, by decide +kernel⟩
theorem vX4_uneven_126 : aCV wsX4_uneven rmX4_uneven RX4 126 2 yX2_unevenness wsX2_unevenness rmX2_unevenness 1 := ⟨TX2, _, _, _, _, _, rfl, gX4_uneven_X2_unevenness, rfl, rfl, rfl, ⟨by decide +kernel, by decide +kernel, by decide +kernel⟩, by decide⟩
theorem vX4_best_39 : aCS wsX4_best rmX4_best RX4 39 yX4_within wsX4_within rmX4_within 3 := ⟨_, _, _, _, gX4_best_X4_within, rfl, rfl, rfl, ⟨by decide +kernel, by decide +kernel, by decide +kernel⟩, by decide⟩
theorem inX4_best_X4 : ∀ w ∈ wsX40, w ∈ wsX4_best := fun w h => List.mem_cons_of_mem _ (List.mem_append_left _ (List.mem_append_right _ h))
theorem fX4_best_19 : aFL wsX4_best RX4 19 4 1 := ⟨_, _, _, rfl, inX4_best_X4, by decide, by decide +kernel⟩
theorem vX4_best_130 : aCV wsX4_best rmX4_best RX4 130 2 yX2_settle wsX2_settle rmX2_settle 1 := ⟨TX2, _, _, _, _, _, rfl, gX4_best_X2_settle, rfl, rfl, rfl, ⟨by decide +kernel, by decide +kernel, by decide +kernel⟩, by decide⟩
theorem vX4_kind_39 : aCS wsX4_kind rmX4_kind RX4 39 yX4_within wsX4_within rmX4_within 3 := ⟨_, _, _, _, gX4_kind_X4_within, rfl, rfl, rfl, ⟨by decide +kernel, by decide +kernel, by decide +kernel⟩, by decide⟩
theorem inX4_kind_X4 : ∀ w ∈ wsX40, w ∈ wsX4_kind := fun w h => List.mem_cons_of_mem _ (List.mem_append_left _ (List.mem_append_right _ h))
theorem fX4_kind_28 : aFL wsX4_kind RX4 28 4 2 := ⟨_, _, _, rfl, inX4_kind_X4, by decide, by decide +kernel⟩
theorem vX4_kind_133 : aCV wsX4_kind rmX4_kind RX4 133 3 yX3_count wsX3_count rmX3_count 0 := ⟨TX3, _, _, _, _, _, rfl, gX4_kind_X3_count, rfl, rfl, rfl, ⟨by decide +kernel, by decide +kernel, by decide +kernel⟩, by decide⟩
theorem vX4_kind_134 : aCV wsX4_kind rmX4_kind RX4 134 3 yX3_add wsX3_add rmX3_add 3 := ⟨TX3, _, _, _, _, _, rfl, gX4_kind_X3_add, rfl, rfl, rfl, ⟨by decide +kernel, by decide +kernel, by decide +kernel⟩, by decide⟩
theorem inX4_canLie_X4 : ∀ w ∈ wsX40, w ∈ wsX4_canLie := fun w h => List.mem_cons_of_mem _ (List.mem_append_left _ (List.mem_append_left _ (List.mem_append_right _ h)))
theorem fX4_canLie_28 : aFL wsX4_canLie RX4 28 4 2 := ⟨_, _, _, rfl, inX4_canLie_X4, by decide, by decide +kernel⟩
theorem vX4_canLie_133 : aCV wsX4_canLie rmX4_canLie RX4 133 3 yX3_count wsX3_count rmX3_count 0 := ⟨TX3, _, _, _, _, _, rfl, gX4_canLie_X3_count, rfl, rfl, rfl, ⟨by decide +kernel, by decide +kernel, by decide +kernel⟩, by decide⟩
theorem vX4_canLie_39 : aCS wsX4_canLie rmX4_canLie RX4 39 yX4_within wsX4_within rmX4_within 3 := ⟨_, _, _, _, gX4_canLie_X4_within, rfl, rfl, rfl, ⟨by decide +kernel, by decide +kernel, by decide +kernel⟩, by decide⟩
theorem vX4_canLie_55 : aCV wsX4_canLie rmX4_canLie RX4 55 4 yX4_isPlace wsX4_isPlace rmX4_isPlace 1 := ⟨TX4, _, _, _, _, _, rfl, gX4_canLie_X4_isPlace, rfl, rfl, rfl, ⟨by decide +kernel, by decide +kernel, by decide +kernel⟩, by decide⟩
theorem vX4_canLie_137 : aCV wsX4_canLie rmX4_canLie RX4 137 3 yX3_lies wsX3_lies rmX3_lies 2 := ⟨TX3, _, _, _, _, _, rfl, gX4_canLie_X3_lies, rfl, rfl, rfl, ⟨by decide +kernel, by decide +kernel, by decide +kernel⟩, by decide⟩
theorem inX4_cut_X4 : ∀ w ∈ wsX40, w ∈ wsX4_cut := fun w h => List.mem_cons_of_mem _ (List.mem_append_left _ (List.mem_append_left _ (List.mem_append_right _ h)))
theorem fX4_cut_28 : aFL wsX4_cut RX4 28 4 2 := ⟨_, _, _, rfl, inX4_cut_X4, by decide, by decide +kernel⟩
theorem vX4_cut_140 : aCV wsX4_cut rmX4_cut RX4 140 3 yX3_plan wsX3_plan rmX3_plan 0 := ⟨TX3, _, _, _, _, _, rfl, gX4_cut_X3_plan, rfl, rfl, rfl, ⟨by decide +kernel, by decide +kernel, by decide +kernel⟩, by decide⟩
theorem vX4_cutAt_55 : aCV wsX4_cutAt rmX4_cutAt RX4 55 4 yX4_isPlace wsX4_isPlace rmX4_isPlace 1 := ⟨TX4, _, _, _, _, _, rfl, gX4_cutAt_X4_isPlace, rfl, rfl, rfl, ⟨by decide +kernel, by decide +kernel, by decide +kernel⟩, by decide⟩
theorem inX4_cutAt_X4 : ∀ w ∈ wsX40, w ∈ wsX4_cutAt := fun w h => List.mem_cons_of_mem _ (List.mem_append_left _ (List.mem_append_left _ (List.mem_append_right _ h)))
theorem fX4_cutAt_28 : aFL wsX4_cutAt RX4 28 4 2 := ⟨_, _, _, rfl, inX4_cutAt_X4, by decide, by decide +kernel⟩
theorem vX4_cutAt_140 : aCV wsX4_cutAt rmX4_cutAt RX4 140 3 yX3_plan wsX3_plan rmX3_plan 0 := ⟨TX3, _, _, _, _, _, rfl, gX4_cutAt_X3_plan, rfl, rfl, rfl, ⟨by decide +kernel, by decide +kernel, by decide +kernel⟩, by decide⟩
theorem vX4_cutAt_143 : aCV wsX4_cutAt rmX4_cutAt RX4 143 3 yX3_plannedAt wsX3_plannedAt rmX3_plannedAt 1 := ⟨TX3, _, _, _, _, _, rfl, gX4_cutAt_X3_plannedAt, rfl, rfl, rfl, ⟨by decide +kernel, by decide +kernel, by decide +kernel⟩, by decide⟩
theorem inX4_grade_X4 : ∀ w ∈ wsX40, w ∈ wsX4_grade := fun w h => List.mem_cons_of_mem _ (List.mem_append_left _ (List.mem_append_right _ h))
theorem fX4_grade_35 : aFL wsX4_grade RX4 35 4 3 := ⟨_, _, _, rfl, inX4_grade_X4, by decide, by decide +kernel⟩
theorem vX4_grade_146 : aCV wsX4_grade rmX4_grade RX4 146 1 yX1_count wsX1_count rmX1_count 0 := ⟨TX1, _, _, _, _, _, rfl, gX4_grade_X1_count, rfl, rfl, rfl, ⟨by decide +kernel, by decide +kernel, by decide +kernel⟩, by decide⟩
theorem vX4_grade_147 : aCV wsX4_grade rmX4_grade RX4 147 1 yX1_add wsX1_add rmX1_add 0 := ⟨TX1, _, _, _, _, _, rfl, gX4_grade_X1_add, rfl, rfl, rfl, ⟨by decide +kernel, by decide +kernel, by decide +kernel⟩, by decide⟩
theorem vX4_cost_149 : aCV wsX4_cost rmX4_cost RX4 149 4 yX4_isGrade wsX4_isGrade rmX4_isGrade 1 := ⟨TX4, _, _, _, _, _, rfl, gX4_cost_X4_isGrade, rfl, rfl, rfl, ⟨by decide +kernel, by decide +kernel, by decide +kernel⟩, by decide⟩
theorem vX4_cost_39 : aCS wsX4_cost rmX4_cost RX4 39 yX4_within wsX4_within rmX4_within 3 := ⟨_, _, _, _, gX4_cost_X4_within, rfl, rfl, rfl, ⟨by decide +kernel, by decide +kernel, by decide +kernel⟩, by decide⟩
theorem inX4_cost_X4 : ∀ w ∈ wsX40, w ∈ wsX4_cost := fun w h => List.mem_cons_of_mem _ (List.mem_append_left _ (List.mem_append_right _ h))
theorem fX4_cost_35 : aFL wsX4_cost RX4 35 4 3 := ⟨_, _, _, rfl, inX4_cost_X4, by decide, by decide +kernel⟩
theorem vX4_cost_152 : aCV wsX4_cost rmX4_cost RX4 152 1 yX1_putCost wsX1_putCost rmX1_putCost 3 := ⟨TX1, _, _, _, _, _, rfl, gX4_cost_X1_putCost, rfl, rfl, rfl, ⟨by decide +kernel, by decide +kernel, by decide +kernel⟩, by decide⟩
theorem vX4_tour_149 : aCV wsX4_tour rmX4_tour RX4 149 4 yX4_isGrade wsX4_isGrade rmX4_isGrade 1 := ⟨TX4, _, _, _, _, _, rfl, gX4_tour_X4_isGrade, rfl, rfl, rfl, ⟨by decide +kernel, by decide +kernel, by decide +kernel⟩, by decide⟩
theorem inX4_tour_X4 : ∀ w ∈ wsX40, w ∈ wsX4_tour := fun w h => List.mem_cons_of_mem _ (List.mem_append_left _ (List.mem_append_right _ h))
theorem fX4_tour_35 : aFL wsX4_tour RX4 35 4 3 := ⟨_, _, _, rfl, inX4_tour_X4, by decide, by decide +kernel⟩
theorem vX4_tour_155 : aCV wsX4_tour rmX4_tour RX4 155 1 yX1_leastCosts wsX1_leastCosts rmX1_leastCosts 1 := ⟨TX1, _, _, _, _, _, rfl, gX4_tour_X1_leastCosts, rfl, rfl, rfl, ⟨by decide +kernel, by decide +kernel, by decide +kernel⟩, by decide⟩
theorem vX4_tourAt_149 : aCV wsX4_tourAt rmX4_tourAt RX4 149 4 yX4_isGrade wsX4_isGrade rmX4_isGrade 1 := ⟨TX4, _, _, _, _, _, rfl, gX4_tourAt_X4_isGrade, rfl, rfl, rfl, ⟨by decide +kernel, by decide +kernel, by decide +kernel⟩, by decide⟩
theorem inX4_tourAt_X4 : ∀ w ∈ wsX40, w ∈ wsX4_tourAt := fun w h => List.mem_cons_of_mem _ (List.mem_append_left _ (List.mem_append_right _ h))
theorem fX4_tourAt_35 : aFL wsX4_tourAt RX4 35 4 3 := ⟨_, _, _, rfl, inX4_tourAt_X4, by decide, by decide +kernel⟩
theorem vX4_tourAt_158 : aCV wsX4_tourAt rmX4_tourAt RX4 158 1 yX1_stepOf wsX1_stepOf rmX1_stepOf 2 := ⟨TX1, _, _, _, _, _, rfl, gX4_tourAt_X1_stepOf, rfl, rfl, rfl, ⟨by decide +kernel, by decide +kernel, by decide +kernel⟩, by decide⟩
theorem inX4_told_X4 : ∀ w ∈ wsX40, w ∈ wsX4_told := fun w h => List.mem_cons_of_mem _ (List.mem_append_left _ (List.mem_append_left _ (List.mem_append_left _ (List.mem_append_left _ (List.mem_append_right _ h)))))
theorem fX4_told_19 : aFL wsX4_told RX4 19 4 1 := ⟨_, _, _, rfl, inX4_told_X4, by decide, by decide +kernel⟩
theorem vX4_told_43 : aCV wsX4_told rmX4_told RX4 43 2 yX2_places wsX2_places rmX2_places 0 := ⟨TX2, _, _, _, _, _, rfl, gX4_told_X2_places, rfl, rfl, rfl, ⟨by decide +kernel, by decide +kernel, by decide +kernel⟩, by decide⟩
theorem fX4_told_10 : aFL wsX4_told RX4 10 4 0 := ⟨_, _, _, rfl, inX4_told_X4, by decide, by decide +kernel⟩
theorem vX4_told_62 : aCV wsX4_told rmX4_told RX4 62 0 yX0_count wsX0_count rmX0_count 0 := ⟨TX0, _, _, _, _, _, rfl, gX4_told_X0_count, rfl, rfl, rfl, ⟨by decide +kernel, by decide +kernel, by decide +kernel⟩, by decide⟩
theorem vX4_told_161 : aCV wsX4_told rmX4_told RX4 161 0 yX0_fittingCount wsX0_fittingCount rmX0_fittingCount 0 := ⟨TX0, _, _, _, _, _, rfl, gX4_told_X0_fittingCount, rfl, rfl, rfl, ⟨by decide +kernel, by decide +kernel, by decide +kernel⟩, by decide⟩
theorem fX4_told_28 : aFL wsX4_told RX4 28 4 2 := ⟨_, _, _, rfl, inX4_told_X4, by decide, by decide +kernel⟩
theorem vX4_told_133 : aCV wsX4_told rmX4_told RX4 133 3 yX3_count wsX3_count rmX3_count 0 := ⟨TX3, _, _, _, _, _, rfl, gX4_told_X3_count, rfl, rfl, rfl, ⟨by decide +kernel, by decide +kernel, by decide +kernel⟩, by decide⟩
theorem fX4_told_35 : aFL wsX4_told RX4 35 4 3 := ⟨_, _, _, rfl, inX4_told_X4, by decide, by decide +kernel⟩
theorem vX4_told_146 : aCV wsX4_told rmX4_told RX4 146 1 yX1_count wsX1_count rmX1_count 0 := ⟨TX1, _, _, _, _, _, rfl, gX4_told_X1_count, rfl, rfl, rfl, ⟨by decide +kernel, by decide +kernel, by decide +kernel⟩, by decide⟩
theorem vX4_told_164 : aCV wsX4_told rmX4_told RX4 164 2 yX2_nextLaw wsX2_nextLaw rmX2_nextLaw 0 := ⟨TX2, _, _, _, _, _, rfl, gX4_told_X2_nextLaw, rfl, rfl, rfl, ⟨by decide +kernel, by decide +kernel, by decide +kernel⟩, by decide⟩
theorem vX4_told_167 : aCV wsX4_told rmX4_told RX4 167 2 yX2_bendLaw wsX2_bendLaw rmX2_bendLaw 0 := ⟨TX2, _, _, _, _, _, rfl, gX4_told_X2_bendLaw, rfl, rfl, rfl, ⟨by decide +kernel, by decide +kernel, by decide +kernel⟩, by decide⟩
theorem vX4_told_170 : aCV wsX4_told rmX4_told RX4 170 2 yX2_mainSpread wsX2_mainSpread rmX2_mainSpread 0 := ⟨TX2, _, _, _, _, _, rfl, gX4_told_X2_mainSpread, rfl, rfl, rfl, ⟨by decide +kernel, by decide +kernel, by decide +kernel⟩, by decide⟩
theorem vX4_told_173 : aCV wsX4_told rmX4_told RX4 173 2 yX2_sideSpread wsX2_sideSpread rmX2_sideSpread 0 := ⟨TX2, _, _, _, _, _, rfl, gX4_told_X2_sideSpread, rfl, rfl, rfl, ⟨by decide +kernel, by decide +kernel, by decide +kernel⟩, by decide⟩
theorem inX4_isPlace_X4 : ∀ w ∈ wsX40, w ∈ wsX4_isPlace := fun w h => List.mem_cons_of_mem _ (List.mem_append_left _ (List.mem_append_right _ h))
theorem fX4_isPlace_19 : aFL wsX4_isPlace RX4 19 4 1 := ⟨_, _, _, rfl, inX4_isPlace_X4, by decide, by decide +kernel⟩
theorem vX4_isPlace_43 : aCV wsX4_isPlace rmX4_isPlace RX4 43 2 yX2_places wsX2_places rmX2_places 0 := ⟨TX2, _, _, _, _, _, rfl, gX4_isPlace_X2_places, rfl, rfl, rfl, ⟨by decide +kernel, by decide +kernel, by decide +kernel⟩, by decide⟩
theorem vX4_isPlace_39 : aCS wsX4_isPlace rmX4_isPlace RX4 39 yX4_within wsX4_within rmX4_within 3 := ⟨_, _, _, _, gX4_isPlace_X4_within, rfl, rfl, rfl, ⟨by decide +kernel, by decide +kernel, by decide +kernel⟩, by decide⟩
theorem inX4_isGrade_X4 : ∀ w ∈ wsX40, w ∈ wsX4_isGrade := fun w h => List.mem_cons_of_mem _ (List.mem_append_left _ (List.mem_append_right _ h))
theorem fX4_isGrade_35 : aFL wsX4_isGrade RX4 35 4 3 := ⟨_, _, _, rfl, inX4_isGrade_X4, by decide, by decide +kernel⟩
theorem vX4_isGrade_146 : aCV wsX4_isGrade rmX4_isGrade RX4 146 1 yX1_count wsX1_count rmX1_count 0 := ⟨TX1, _, _, _, _, _, rfl, gX4_isGrade_X1_count, rfl, rfl, rfl, ⟨by decide +kernel, by decide +kernel, by decide +kernel⟩, by decide⟩
theorem vX4_isGrade_39 : aCS wsX4_isGrade rmX4_isGrade RX4 39 yX4_within wsX4_within rmX4_within 3 := ⟨_, _, _, _, gX4_isGrade_X4_within, rfl, rfl, rfl, ⟨by decide +kernel, by decide +kernel, by decide +kernel⟩, by decide⟩
theorem vX4_isTime_39 : aCS wsX4_isTime rmX4_isTime RX4 39 yX4_within wsX4_within rmX4_within 3 := ⟨_, _, _, _, gX4_isTime_X4_within, rfl, rfl, rfl, ⟨by decide +kernel, by decide +kernel, by decide +kernel⟩, by decide⟩
