theorem inX5_isPlace_X5 : ∀ w ∈ wsX50, w ∈ wsX5_isPlace := fun w h => List.mem_cons_of_mem _ (List.mem_append_right _ h)
theorem fX5_isPlace_7 : aFL wsX5_isPlace RX5 7 5 0 := ⟨_, _, _, rfl, inX5_isPlace_X5, by decide, by decide +kernel⟩
theorem vX5_isPlace_75 : aCS wsX5_isPlace rmX5_isPlace RX5 75 yX5_in wsX5_in rmX5_in 3 := ⟨_, _, _, _, gX5_isPlace_X5_in, rfl, rfl, rfl, ⟨by decide +kernel, by decide +kernel, by decide +kernel⟩, by decide⟩
theorem inX5_begin_X5 : ∀ w ∈ wsX50, w ∈ wsX5_begin := fun w h => List.mem_cons_of_mem _ (List.mem_append_right _ h)
theorem pX5_begin_79 : aFP wsX5_begin RX5 79 5 1 false := ⟨_, _, _, tyX5, rfl, inX5_begin_X5, tyX5_ok, nmX5, by decide, by decide +kernel, rfl, rfl⟩
theorem fX5_begin_27 : aFL wsX5_begin RX5 27 5 6 := ⟨_, _, _, rfl, inX5_begin_X5, by decide, by decide +kernel⟩
theorem fX5_begin_30 : aFL wsX5_begin RX5 30 5 7 := ⟨_, _, _, rfl, inX5_begin_X5, by decide, by decide +kernel⟩
theorem vX5_sheet_75 : aCS wsX5_sheet rmX5_sheet RX5 75 yX5_in wsX5_in rmX5_in 3 := ⟨_, _, _, _, gX5_sheet_X5_in, rfl, rfl, rfl, ⟨by decide +kernel, by decide +kernel, by decide +kernel⟩, by decide⟩
theorem inX5_sheet_X5 : ∀ w ∈ wsX50, w ∈ wsX5_sheet := fun w h => List.mem_cons_of_mem _ (List.mem_append_right _ h)
theorem fX5_sheet_7 : aFL wsX5_sheet RX5 7 5 0 := ⟨_, _, _, rfl, inX5_sheet_X5, by decide, by decide +kernel⟩
theorem pX5_sheet_7 : aFP wsX5_sheet RX5 7 5 0 false := ⟨_, _, _, tyX5, rfl, inX5_sheet_X5, tyX5_ok, nmX5, by decide, by decide +kernel, rfl, rfl⟩
theorem pX5_sheet_82 : aFP wsX5_sheet RX5 82 5 14 false := ⟨_, _, _, tyX5, rfl, inX5_sheet_X5, tyX5_ok, nmX5, by decide, by decide +kernel, rfl, rfl⟩
theorem fX5_sheet_33 : aFL wsX5_sheet RX5 33 5 8 := ⟨_, _, _, rfl, inX5_sheet_X5, by decide, by decide +kernel⟩
theorem fX5_sheet_36 : aFL wsX5_sheet RX5 36 5 9 := ⟨_, _, _, rfl, inX5_sheet_X5, by decide, by decide +kernel⟩
theorem vX5_sheet_72 : aCV wsX5_sheet rmX5_sheet RX5 72 5 yX5_begin wsX5_begin rmX5_begin 0 := ⟨TX5, _, _, _, _, _, rfl, gX5_sheet_X5_begin, rfl, rfl, rfl, ⟨by decide +kernel, by decide +kernel, by decide +kernel⟩, by decide⟩
theorem vX5_read_85 : aCV wsX5_read rmX5_read RX5 85 5 yX5_isPlace wsX5_isPlace rmX5_isPlace 1 := ⟨TX5, _, _, _, _, _, rfl, gX5_read_X5_isPlace, rfl, rfl, rfl, ⟨by decide +kernel, by decide +kernel, by decide +kernel⟩, by decide⟩
theorem vX5_read_75 : aCS wsX5_read rmX5_read RX5 75 yX5_in wsX5_in rmX5_in 3 := ⟨_, _, _, _, gX5_read_X5_in, rfl, rfl, rfl, ⟨by decide +kernel, by decide +kernel, by decide +kernel⟩, by decide⟩
theorem inX5_read_X5 : ∀ w ∈ wsX50, w ∈ wsX5_read := fun w h => List.mem_cons_of_mem _ (List.mem_append_right _ h)
theorem fX5_read_79 : aFL wsX5_read RX5 79 5 1 := ⟨_, _, _, rfl, inX5_read_X5, by decide, by decide +kernel⟩
theorem fX5_read_27 : aFL wsX5_read RX5 27 5 6 := ⟨_, _, _, rfl, inX5_read_X5, by decide, by decide +kernel⟩
theorem fX5_read_30 : aFL wsX5_read RX5 30 5 7 := ⟨_, _, _, rfl, inX5_read_X5, by decide, by decide +kernel⟩
theorem fX5_read_13 : aFL wsX5_read RX5 13 5 2 := ⟨_, _, _, rfl, inX5_read_X5, by decide, by decide +kernel⟩
theorem fX5_read_17 : aFL wsX5_read RX5 17 5 3 := ⟨_, _, _, rfl, inX5_read_X5, by decide, by decide +kernel⟩
theorem fX5_read_20 : aFL wsX5_read RX5 20 5 4 := ⟨_, _, _, rfl, inX5_read_X5, by decide, by decide +kernel⟩
theorem fX5_read_23 : aFL wsX5_read RX5 23 5 5 := ⟨_, _, _, rfl, inX5_read_X5, by decide, by decide +kernel⟩
theorem pX5_read_79 : aFP wsX5_read RX5 79 5 1 false := ⟨_, _, _, tyX5, rfl, inX5_read_X5, tyX5_ok, nmX5, by decide, by decide +kernel, rfl, rfl⟩
theorem inX5_reading_X5 : ∀ w ∈ wsX50, w ∈ wsX5_reading := fun w h => List.mem_cons_of_mem _ (List.mem_append_right _ h)
theorem fX5_reading_79 : aFL wsX5_reading RX5 79 5 1 := ⟨_, _, _, rfl, inX5_reading_X5, by decide, by decide +kernel⟩
theorem vX5_reading_75 : aCS wsX5_reading rmX5_reading RX5 75 yX5_in wsX5_in rmX5_in 3 := ⟨_, _, _, _, gX5_reading_X5_in, rfl, rfl, rfl, ⟨by decide +kernel, by decide +kernel, by decide +kernel⟩, by decide⟩
theorem kX5_reading_89 : Cond.constant RX5 89 (i3 (-1000001)) ∈ wsX5_reading := by decide +kernel
theorem fX5_reading_13 : aFL wsX5_reading RX5 13 5 2 := ⟨_, _, _, rfl, inX5_reading_X5, by decide, by decide +kernel⟩
theorem fX5_reading_17 : aFL wsX5_reading RX5 17 5 3 := ⟨_, _, _, rfl, inX5_reading_X5, by decide, by decide +kernel⟩
theorem fX5_reading_20 : aFL wsX5_reading RX5 20 5 4 := ⟨_, _, _, rfl, inX5_reading_X5, by decide, by decide +kernel⟩
theorem fX5_reading_23 : aFL wsX5_reading RX5 23 5 5 := ⟨_, _, _, rfl, inX5_reading_X5, by decide, by decide +kernel⟩
theorem kX5_reading_90 : Cond.constant RX5 90 (i3 (-1000002)) ∈ wsX5_reading := by decide +kernel
theorem inX5_isAcross_X5 : ∀ w ∈ wsX50, w ∈ wsX5_isAcross := fun w h => List.mem_cons_of_mem _ (List.mem_append_right _ h)
theorem fX5_isAcross_27 : aFL wsX5_isAcross RX5 27 5 6 := ⟨_, _, _, rfl, inX5_isAcross_X5, by decide, by decide +kernel⟩
theorem inX5_acrossOf_X5 : ∀ w ∈ wsX50, w ∈ wsX5_acrossOf := fun w h => List.mem_cons_of_mem _ (List.mem_append_right _ h)
theorem fX5_acrossOf_30 : aFL wsX5_acrossOf RX5 30 5 7 := ⟨_, _, _, rfl, inX5_acrossOf_X5, by decide, by decide +kernel⟩
theorem vX5_across_85 : aCV wsX5_across rmX5_across RX5 85 5 yX5_isPlace wsX5_isPlace rmX5_isPlace 1 := ⟨TX5, _, _, _, _, _, rfl, gX5_across_X5_isPlace, rfl, rfl, rfl, ⟨by decide +kernel, by decide +kernel, by decide +kernel⟩, by decide⟩
theorem kX5_across_89 : Cond.constant RX5 89 (i3 (-1000001)) ∈ wsX5_across := by decide +kernel
theorem vX5_across_91 : aCV wsX5_across rmX5_across RX5 91 5 yX5_isAcross wsX5_isAcross rmX5_isAcross 1 := ⟨TX5, _, _, _, _, _, rfl, gX5_across_X5_isAcross, rfl, rfl, rfl, ⟨by decide +kernel, by decide +kernel, by decide +kernel⟩, by decide⟩
theorem vX5_across_94 : aCV wsX5_across rmX5_across RX5 94 5 yX5_acrossOf wsX5_acrossOf rmX5_acrossOf 1 := ⟨TX5, _, _, _, _, _, rfl, gX5_across_X5_acrossOf, rfl, rfl, rfl, ⟨by decide +kernel, by decide +kernel, by decide +kernel⟩, by decide⟩
theorem kX5_across_98 : Cond.constant RX5 98 (i3 (-1000005)) ∈ wsX5_across := by decide +kernel
theorem vX5_along_75 : aCS wsX5_along rmX5_along RX5 75 yX5_in wsX5_in rmX5_in 3 := ⟨_, _, _, _, gX5_along_X5_in, rfl, rfl, rfl, ⟨by decide +kernel, by decide +kernel, by decide +kernel⟩, by decide⟩
theorem kX5_along_89 : Cond.constant RX5 89 (i3 (-1000001)) ∈ wsX5_along := by decide +kernel
theorem inX5_along_X5 : ∀ w ∈ wsX50, w ∈ wsX5_along := fun w h => List.mem_cons_of_mem _ (List.mem_append_right _ h)
theorem fX5_along_27 : aFL wsX5_along RX5 27 5 6 := ⟨_, _, _, rfl, inX5_along_X5, by decide, by decide +kernel⟩
theorem fX5_along_30 : aFL wsX5_along RX5 30 5 7 := ⟨_, _, _, rfl, inX5_along_X5, by decide, by decide +kernel⟩
theorem kX5_along_98 : Cond.constant RX5 98 (i3 (-1000005)) ∈ wsX5_along := by decide +kernel
theorem inX5_groups_X5 : ∀ w ∈ wsX50, w ∈ wsX5_groups := fun w h => List.mem_cons_of_mem _ (List.mem_append_right _ h)
theorem fX5_groups_7 : aFL wsX5_groups RX5 7 5 0 := ⟨_, _, _, rfl, inX5_groups_X5, by decide, by decide +kernel⟩
theorem fX5_groups_27 : aFL wsX5_groups RX5 27 5 6 := ⟨_, _, _, rfl, inX5_groups_X5, by decide, by decide +kernel⟩
theorem inX5_take_X5 : ∀ w ∈ wsX50, w ∈ wsX5_take := fun w h => List.mem_cons_of_mem _ (List.mem_append_right _ h)
theorem fX5_take_7 : aFL wsX5_take RX5 7 5 0 := ⟨_, _, _, rfl, inX5_take_X5, by decide, by decide +kernel⟩
theorem vX5_take_91 : aCV wsX5_take rmX5_take RX5 91 5 yX5_isAcross wsX5_isAcross rmX5_isAcross 1 := ⟨TX5, _, _, _, _, _, rfl, gX5_take_X5_isAcross, rfl, rfl, rfl, ⟨by decide +kernel, by decide +kernel, by decide +kernel⟩, by decide⟩
theorem vX5_take_94 : aCV wsX5_take rmX5_take RX5 94 5 yX5_acrossOf wsX5_acrossOf rmX5_acrossOf 1 := ⟨TX5, _, _, _, _, _, rfl, gX5_take_X5_acrossOf, rfl, rfl, rfl, ⟨by decide +kernel, by decide +kernel, by decide +kernel⟩, by decide⟩
theorem vX5_take_75 : aCS wsX5_take rmX5_take RX5 75 yX5_in wsX5_in rmX5_in 3 := ⟨_, _, _, _, gX5_take_X5_in, rfl, rfl, rfl, ⟨by decide +kernel, by decide +kernel, by decide +kernel⟩, by decide⟩
theorem fX5_take_33 : aFL wsX5_take RX5 33 5 8 := ⟨_, _, _, rfl, inX5_take_X5, by decide, by decide +kernel⟩
theorem inX5_clear_X5 : ∀ w ∈ wsX50, w ∈ wsX5_clear := fun w h => List.mem_cons_of_mem _ (List.mem_append_right _ h)
theorem fX5_clear_79 : aFL wsX5_clear RX5 79 5 1 := ⟨_, _, _, rfl, inX5_clear_X5, by decide, by decide +kernel⟩
theorem vX5_clear_72 : aCV wsX5_clear rmX5_clear RX5 72 5 yX5_begin wsX5_begin rmX5_begin 0 := ⟨TX5, _, _, _, _, _, rfl, gX5_clear_X5_begin, rfl, rfl, rfl, ⟨by decide +kernel, by decide +kernel, by decide +kernel⟩, by decide⟩
theorem inX5_areLawful_X5 : ∀ w ∈ wsX50, w ∈ wsX5_areLawful := fun w h => List.mem_cons_of_mem _ (List.mem_append_right _ h)
theorem fX5_areLawful_7 : aFL wsX5_areLawful RX5 7 5 0 := ⟨_, _, _, rfl, inX5_areLawful_X5, by decide, by decide +kernel⟩
theorem fX5_areLawful_36 : aFL wsX5_areLawful RX5 36 5 9 := ⟨_, _, _, rfl, inX5_areLawful_X5, by decide, by decide +kernel⟩
theorem vX5_areLawful_99 : aCS wsX5_areLawful rmX5_areLawful RX5 99 yX5_size wsX5_size rmX5_size 1 := ⟨_, _, _, _, gX5_areLawful_X5_size, rfl, rfl, rfl, ⟨by decide +kernel, by decide +kernel, by decide +kernel⟩, by decide⟩
theorem vX5_laws_75 : aCS wsX5_laws rmX5_laws RX5 75 yX5_in wsX5_in rmX5_in 3 := ⟨_, _, _, _, gX5_laws_X5_in, rfl, rfl, rfl, ⟨by decide +kernel, by decide +kernel, by decide +kernel⟩, by decide⟩
theorem vX5_laws_102 : aCV wsX5_laws rmX5_laws RX5 102 5 yX5_areLawful wsX5_areLawful rmX5_areLawful 2 := ⟨TX5, _, _, _, _, _, rfl, gX5_laws_X5_areLawful, rfl, rfl, rfl, ⟨by decide +kernel, by decide +kernel, by decide +kernel⟩, by decide⟩
theorem inX5_laws_X5 : ∀ w ∈ wsX50, w ∈ wsX5_laws := fun w h => List.mem_cons_of_mem _ (List.mem_append_right _ h)
theorem pX5_laws_39 : aFP wsX5_laws RX5 39 5 10 false := ⟨_, _, _, tyX5, rfl, inX5_laws_X5, tyX5_ok, nmX5, by decide, by decide +kernel, rfl, rfl⟩
theorem pX5_laws_42 : aFP wsX5_laws RX5 42 5 11 false := ⟨_, _, _, tyX5, rfl, inX5_laws_X5, tyX5_ok, nmX5, by decide, by decide +kernel, rfl, rfl⟩
theorem vX5_spread_75 : aCS wsX5_spread rmX5_spread RX5 75 yX5_in wsX5_in rmX5_in 3 := ⟨_, _, _, _, gX5_spread_X5_in, rfl, rfl, rfl, ⟨by decide +kernel, by decide +kernel, by decide +kernel⟩, by decide⟩
theorem inX5_spread_X5 : ∀ w ∈ wsX50, w ∈ wsX5_spread := fun w h => List.mem_cons_of_mem _ (List.mem_append_right _ h)
theorem pX5_spread_45 : aFP wsX5_spread RX5 45 5 12 false := ⟨_, _, _, tyX5, rfl, inX5_spread_X5, tyX5_ok, nmX5, by decide, by decide +kernel, rfl, rfl⟩
theorem pX5_spread_106 : aFP wsX5_spread RX5 106 5 13 false := ⟨_, _, _, tyX5, rfl, inX5_spread_X5, tyX5_ok, nmX5, by decide, by decide +kernel, rfl, rfl⟩
theorem vX5_base_85 : aCV wsX5_base rmX5_base RX5 85 5 yX5_isPlace wsX5_isPlace rmX5_isPlace 1 := ⟨TX5, _, _, _, _, _, rfl, gX5_base_X5_isPlace, rfl, rfl, rfl, ⟨by decide +kernel, by decide +kernel, by decide +kernel⟩, by decide⟩
theorem vX5_base_75 : aCS wsX5_base rmX5_base RX5 75 yX5_in wsX5_in rmX5_in 3 := ⟨_, _, _, _, gX5_base_X5_in, rfl, rfl, rfl, ⟨by decide +kernel, by decide +kernel, by decide +kernel⟩, by decide⟩
theorem inX5_base_X5 : ∀ w ∈ wsX50, w ∈ wsX5_base := fun w h => List.mem_cons_of_mem _ (List.mem_append_right _ h)
theorem fX5_base_33 : aFL wsX5_base RX5 33 5 8 := ⟨_, _, _, rfl, inX5_base_X5, by decide, by decide +kernel⟩
theorem vX5_set_85 : aCV wsX5_set rmX5_set RX5 85 5 yX5_isPlace wsX5_isPlace rmX5_isPlace 1 := ⟨TX5, _, _, _, _, _, rfl, gX5_set_X5_isPlace, rfl, rfl, rfl, ⟨by decide +kernel, by decide +kernel, by decide +kernel⟩, by decide⟩
theorem vX5_set_75 : aCS wsX5_set rmX5_set RX5 75 yX5_in wsX5_in rmX5_in 3 := ⟨_, _, _, _, gX5_set_X5_in, rfl, rfl, rfl, ⟨by decide +kernel, by decide +kernel, by decide +kernel⟩, by decide⟩
theorem inX5_set_X5 : ∀ w ∈ wsX50, w ∈ wsX5_set := fun w h => List.mem_cons_of_mem _ (List.mem_append_right _ h)
theorem fX5_set_36 : aFL wsX5_set RX5 36 5 9 := ⟨_, _, _, rfl, inX5_set_X5, by decide, by decide +kernel⟩
theorem fX5_set_39 : aFL wsX5_set RX5 39 5 10 := ⟨_, _, _, rfl, inX5_set_X5, by decide, by decide +kernel⟩
theorem fX5_set_42 : aFL wsX5_set RX5 42 5 11 := ⟨_, _, _, rfl, inX5_set_X5, by decide, by decide +kernel⟩
theorem vX5_set_102 : aCV wsX5_set rmX5_set RX5 102 5 yX5_areLawful wsX5_areLawful rmX5_areLawful 2 := ⟨TX5, _, _, _, _, _, rfl, gX5_set_X5_areLawful, rfl, rfl, rfl, ⟨by decide +kernel, by decide +kernel, by decide +kernel⟩, by decide⟩
theorem inX5_error_X5 : ∀ w ∈ wsX50, w ∈ wsX5_error := fun w h => List.mem_cons_of_mem _ (List.mem_append_right _ h)
theorem fX5_error_36 : aFL wsX5_error RX5 36 5 9 := ⟨_, _, _, rfl, inX5_error_X5, by decide, by decide +kernel⟩
theorem fX5_error_7 : aFL wsX5_error RX5 7 5 0 := ⟨_, _, _, rfl, inX5_error_X5, by decide, by decide +kernel⟩
theorem fX5_error_33 : aFL wsX5_error RX5 33 5 8 := ⟨_, _, _, rfl, inX5_error_X5, by decide, by decide +kernel⟩
theorem fX5_error_45 : aFL wsX5_error RX5 45 5 12 := ⟨_, _, _, rfl, inX5_error_X5, by decide, by decide +kernel⟩
theorem fX5_error_106 : aFL wsX5_error RX5 106 5 13 := ⟨_, _, _, rfl, inX5_error_X5, by decide, by decide +kernel⟩
theorem vX5_about_85 : aCV wsX5_about rmX5_about RX5 85 5 yX5_isPlace wsX5_isPlace rmX5_isPlace 1 := ⟨TX5, _, _, _, _, _, rfl, gX5_about_X5_isPlace, rfl, rfl, rfl, ⟨by decide +kernel, by decide +kernel, by decide +kernel⟩, by decide⟩
theorem kX5_about_89 : Cond.constant RX5 89 (i3 (-1000001)) ∈ wsX5_about := by decide +kernel
theorem inX5_about_X5 : ∀ w ∈ wsX50, w ∈ wsX5_about := fun w h => List.mem_cons_of_mem _ (List.mem_append_right _ h)
theorem fX5_about_36 : aFL wsX5_about RX5 36 5 9 := ⟨_, _, _, rfl, inX5_about_X5, by decide, by decide +kernel⟩
theorem fX5_about_33 : aFL wsX5_about RX5 33 5 8 := ⟨_, _, _, rfl, inX5_about_X5, by decide, by decide +kernel⟩
theorem vX5_about_109 : aCV wsX5_about rmX5_about RX5 109 5 yX5_error wsX5_error rmX5_error 1 := ⟨TX5, _, _, _, _, _, rfl, gX5_about_X5_error, rfl, rfl, rfl, ⟨by decide +kernel, by decide +kernel, by decide +kernel⟩, by decide⟩
theorem kX5_about_90 : Cond.constant RX5 90 (i3 (-1000002)) ∈ wsX5_about := by decide +kernel
theorem inX5_unevenOf_X5 : ∀ w ∈ wsX50, w ∈ wsX5_unevenOf := fun w h => List.mem_cons_of_mem _ (List.mem_append_right _ h)
theorem fX5_unevenOf_7 : aFL wsX5_unevenOf RX5 7 5 0 := ⟨_, _, _, rfl, inX5_unevenOf_X5, by decide, by decide +kernel⟩
theorem vX5_unevenOf_109 : aCV wsX5_unevenOf rmX5_unevenOf RX5 109 5 yX5_error wsX5_error rmX5_error 1 := ⟨TX5, _, _, _, _, _, rfl, gX5_unevenOf_X5_error, rfl, rfl, rfl, ⟨by decide +kernel, by decide +kernel, by decide +kernel⟩, by decide⟩
theorem vX5_unevenOf_99 : aCS wsX5_unevenOf rmX5_unevenOf RX5 99 yX5_size wsX5_size rmX5_size 1 := ⟨_, _, _, _, gX5_unevenOf_X5_size, rfl, rfl, rfl, ⟨by decide +kernel, by decide +kernel, by decide +kernel⟩, by decide⟩
theorem vX5_unevenOf_112 : aCS wsX5_unevenOf rmX5_unevenOf RX5 112 yX5_with wsX5_with rmX5_with 3 := ⟨_, _, _, _, gX5_unevenOf_X5_with, rfl, rfl, rfl, ⟨by decide +kernel, by decide +kernel, by decide +kernel⟩, by decide⟩
theorem vX5_uneven_75 : aCS wsX5_uneven rmX5_uneven RX5 75 yX5_in wsX5_in rmX5_in 3 := ⟨_, _, _, _, gX5_uneven_X5_in, rfl, rfl, rfl, ⟨by decide +kernel, by decide +kernel, by decide +kernel⟩, by decide⟩
theorem vX5_uneven_116 : aCV wsX5_uneven rmX5_uneven RX5 116 5 yX5_unevenOf wsX5_unevenOf rmX5_unevenOf 1 := ⟨TX5, _, _, _, _, _, rfl, gX5_uneven_X5_unevenOf, rfl, rfl, rfl, ⟨by decide +kernel, by decide +kernel, by decide +kernel⟩, by decide⟩
theorem vX5_goes_99 : aCS wsX5_goes rmX5_goes RX5 99 yX5_size wsX5_size rmX5_size 1 := ⟨_, _, _, _, gX5_goes_X5_size, rfl, rfl, rfl, ⟨by decide +kernel, by decide +kernel, by decide +kernel⟩, by decide⟩
theorem inX5_goes_X5 : ∀ w ∈ wsX50, w ∈ wsX5_goes := fun w h => List.mem_cons_of_mem _ (List.mem_append_right _ h)
theorem fX5_goes_39 : aFL wsX5_goes RX5 39 5 10 := ⟨_, _, _, rfl, inX5_goes_X5, by decide, by decide +kernel⟩
theorem fX5_goes_42 : aFL wsX5_goes RX5 42 5 11 := ⟨_, _, _, rfl, inX5_goes_X5, by decide, by decide +kernel⟩
theorem inX5_layLeast_X5 : ∀ w ∈ wsX50, w ∈ wsX5_layLeast := fun w h => List.mem_cons_of_mem _ (List.mem_append_right _ h)
theorem fX5_layLeast_7 : aFL wsX5_layLeast RX5 7 5 0 := ⟨_, _, _, rfl, inX5_layLeast_X5, by decide, by decide +kernel⟩
theorem fX5_layLeast_33 : aFL wsX5_layLeast RX5 33 5 8 := ⟨_, _, _, rfl, inX5_layLeast_X5, by decide, by decide +kernel⟩
theorem fX5_layLeast_45 : aFL wsX5_layLeast RX5 45 5 12 := ⟨_, _, _, rfl, inX5_layLeast_X5, by decide, by decide +kernel⟩
theorem fX5_layLeast_106 : aFL wsX5_layLeast RX5 106 5 13 := ⟨_, _, _, rfl, inX5_layLeast_X5, by decide, by decide +kernel⟩
theorem vX5_layLeast_99 : aCS wsX5_layLeast rmX5_layLeast RX5 99 yX5_size wsX5_size rmX5_size 1 := ⟨_, _, _, _, gX5_layLeast_X5_size, rfl, rfl, rfl, ⟨by decide +kernel, by decide +kernel, by decide +kernel⟩, by decide⟩
theorem vX5_layLeast_119 : aCV wsX5_layLeast rmX5_layLeast RX5 119 5 yX5_goes wsX5_goes rmX5_goes 4 := ⟨TX5, _, _, _, _, _, rfl, gX5_layLeast_X5_goes, rfl, rfl, rfl, ⟨by decide +kernel, by decide +kernel, by decide +kernel⟩, by decide⟩
theorem fX5_layLeast_60 : aFL wsX5_layLeast RX5 60 5 20 := ⟨_, _, _, rfl, inX5_layLeast_X5, by decide, by decide +kernel⟩
theorem vX5_layLeast_112 : aCS wsX5_layLeast rmX5_layLeast RX5 112 yX5_with wsX5_with rmX5_with 3 := ⟨_, _, _, _, gX5_layLeast_X5_with, rfl, rfl, rfl, ⟨by decide +kernel, by decide +kernel, by decide +kernel⟩, by decide⟩
theorem vX5_best_75 : aCS wsX5_best rmX5_best RX5 75 yX5_in wsX5_in rmX5_in 3 := ⟨_, _, _, _, gX5_best_X5_in, rfl, rfl, rfl, ⟨by decide +kernel, by decide +kernel, by decide +kernel⟩, by decide⟩
theorem vX5_best_123 : aCV wsX5_best rmX5_best RX5 123 5 yX5_layLeast wsX5_layLeast rmX5_layLeast 1 := ⟨TX5, _, _, _, _, _, rfl, gX5_best_X5_layLeast, rfl, rfl, rfl, ⟨by decide +kernel, by decide +kernel, by decide +kernel⟩, by decide⟩
theorem inX5_best_X5 : ∀ w ∈ wsX50, w ∈ wsX5_best := fun w h => List.mem_cons_of_mem _ (List.mem_append_right _ h)
theorem fX5_best_60 : aFL wsX5_best RX5 60 5 20 := ⟨_, _, _, rfl, inX5_best_X5, by decide, by decide +kernel⟩
theorem fX5_best_36 : aFL wsX5_best RX5 36 5 9 := ⟨_, _, _, rfl, inX5_best_X5, by decide, by decide +kernel⟩
theorem fX5_best_7 : aFL wsX5_best RX5 7 5 0 := ⟨_, _, _, rfl, inX5_best_X5, by decide, by decide +kernel⟩
theorem vX5_best_119 : aCV wsX5_best rmX5_best RX5 119 5 yX5_goes wsX5_goes rmX5_goes 4 := ⟨TX5, _, _, _, _, _, rfl, gX5_best_X5_goes, rfl, rfl, rfl, ⟨by decide +kernel, by decide +kernel, by decide +kernel⟩, by decide⟩
theorem fX5_best_33 : aFL wsX5_best RX5 33 5 8 := ⟨_, _, _, rfl, inX5_best_X5, by decide, by decide +kernel⟩
theorem fX5_best_45 : aFL wsX5_best RX5 45 5 12 := ⟨_, _, _, rfl, inX5_best_X5, by decide, by decide +kernel⟩
theorem fX5_best_106 : aFL wsX5_best RX5 106 5 13 := ⟨_, _, _, rfl, inX5_best_X5, by decide, by decide +kernel⟩
theorem vX5_best_99 : aCS wsX5_best rmX5_best RX5 99 yX5_size wsX5_size rmX5_size 1 := ⟨_, _, _, _, gX5_best_X5_size, rfl, rfl, rfl, ⟨by decide +kernel, by decide +kernel, by decide +kernel⟩, by decide⟩
theorem vX5_kind_75 : aCS wsX5_kind rmX5_kind RX5 75 yX5_in wsX5_in rmX5_in 3 := ⟨_, _, _, _, gX5_kind_X5_in, rfl, rfl, rfl, ⟨by decide +kernel, by decide +kernel, by decide +kernel⟩, by decide⟩
theorem inX5_kind_X5 : ∀ w ∈ wsX50, w ∈ wsX5_kind := fun w h => List.mem_cons_of_mem _ (List.mem_append_right _ h)
theorem fX5_kind_82 : aFL wsX5_kind RX5 82 5 14 := ⟨_, _, _, rfl, inX5_kind_X5, by decide, by decide +kernel⟩
theorem fX5_kind_48 : aFL wsX5_kind RX5 48 5 15 := ⟨_, _, _, rfl, inX5_kind_X5, by decide, by decide +kernel⟩
theorem fX5_kind_51 : aFL wsX5_kind RX5 51 5 16 := ⟨_, _, _, rfl, inX5_kind_X5, by decide, by decide +kernel⟩
theorem fX5_kind_54 : aFL wsX5_kind RX5 54 5 17 := ⟨_, _, _, rfl, inX5_kind_X5, by decide, by decide +kernel⟩
theorem pX5_kind_82 : aFP wsX5_kind RX5 82 5 14 false := ⟨_, _, _, tyX5, rfl, inX5_kind_X5, tyX5_ok, nmX5, by decide, by decide +kernel, rfl, rfl⟩
theorem inX5_lies_X5 : ∀ w ∈ wsX50, w ∈ wsX5_lies := fun w h => List.mem_cons_of_mem _ (List.mem_append_right _ h)
theorem fX5_lies_48 : aFL wsX5_lies RX5 48 5 15 := ⟨_, _, _, rfl, inX5_lies_X5, by decide, by decide +kernel⟩
theorem fX5_lies_7 : aFL wsX5_lies RX5 7 5 0 := ⟨_, _, _, rfl, inX5_lies_X5, by decide, by decide +kernel⟩
theorem vX5_lies_109 : aCV wsX5_lies rmX5_lies RX5 109 5 yX5_error wsX5_error rmX5_error 1 := ⟨TX5, _, _, _, _, _, rfl, gX5_lies_X5_error, rfl, rfl, rfl, ⟨by decide +kernel, by decide +kernel, by decide +kernel⟩, by decide⟩
theorem vX5_lies_99 : aCS wsX5_lies rmX5_lies RX5 99 yX5_size wsX5_size rmX5_size 1 := ⟨_, _, _, _, gX5_lies_X5_size, rfl, rfl, rfl, ⟨by decide +kernel, by decide +kernel, by decide +kernel⟩, by decide⟩
theorem fX5_lies_54 : aFL wsX5_lies RX5 54 5 17 := ⟨_, _, _, rfl, inX5_lies_X5, by decide, by decide +kernel⟩
theorem inX5_canLie_X5 : ∀ w ∈ wsX50, w ∈ wsX5_canLie := fun w h => List.mem_cons_of_mem _ (List.mem_append_right _ h)
theorem fX5_canLie_82 : aFL wsX5_canLie RX5 82 5 14 := ⟨_, _, _, rfl, inX5_canLie_X5, by decide, by decide +kernel⟩
theorem vX5_canLie_75 : aCS wsX5_canLie rmX5_canLie RX5 75 yX5_in wsX5_in rmX5_in 3 := ⟨_, _, _, _, gX5_canLie_X5_in, rfl, rfl, rfl, ⟨by decide +kernel, by decide +kernel, by decide +kernel⟩, by decide⟩
theorem vX5_canLie_85 : aCV wsX5_canLie rmX5_canLie RX5 85 5 yX5_isPlace wsX5_isPlace rmX5_isPlace 1 := ⟨TX5, _, _, _, _, _, rfl, gX5_canLie_X5_isPlace, rfl, rfl, rfl, ⟨by decide +kernel, by decide +kernel, by decide +kernel⟩, by decide⟩
theorem vX5_canLie_127 : aCV wsX5_canLie rmX5_canLie RX5 127 5 yX5_lies wsX5_lies rmX5_lies 2 := ⟨TX5, _, _, _, _, _, rfl, gX5_canLie_X5_lies, rfl, rfl, rfl, ⟨by decide +kernel, by decide +kernel, by decide +kernel⟩, by decide⟩
theorem inX5_layCut_X5 : ∀ w ∈ wsX50, w ∈ wsX5_layCut := fun w h => List.mem_cons_of_mem _ (List.mem_append_right _ h)
theorem fX5_layCut_63 : aFL wsX5_layCut RX5 63 5 21 := ⟨_, _, _, rfl, inX5_layCut_X5, by decide, by decide +kernel⟩
theorem fX5_layCut_7 : aFL wsX5_layCut RX5 7 5 0 := ⟨_, _, _, rfl, inX5_layCut_X5, by decide, by decide +kernel⟩
theorem fX5_layCut_66 : aFL wsX5_layCut RX5 66 5 22 := ⟨_, _, _, rfl, inX5_layCut_X5, by decide, by decide +kernel⟩
theorem fX5_layCut_82 : aFL wsX5_layCut RX5 82 5 14 := ⟨_, _, _, rfl, inX5_layCut_X5, by decide, by decide +kernel⟩
theorem vX5_layCut_127 : aCV wsX5_layCut rmX5_layCut RX5 127 5 yX5_lies wsX5_lies rmX5_lies 2 := ⟨TX5, _, _, _, _, _, rfl, gX5_layCut_X5_lies, rfl, rfl, rfl, ⟨by decide +kernel, by decide +kernel, by decide +kernel⟩, by decide⟩
theorem fX5_layCut_51 : aFL wsX5_layCut RX5 51 5 16 := ⟨_, _, _, rfl, inX5_layCut_X5, by decide, by decide +kernel⟩
theorem fX5_layCut_48 : aFL wsX5_layCut RX5 48 5 15 := ⟨_, _, _, rfl, inX5_layCut_X5, by decide, by decide +kernel⟩
theorem vX5_cut_130 : aCV wsX5_cut rmX5_cut RX5 130 5 yX5_layCut wsX5_layCut rmX5_layCut 0 := ⟨TX5, _, _, _, _, _, rfl, gX5_cut_X5_layCut, rfl, rfl, rfl, ⟨by decide +kernel, by decide +kernel, by decide +kernel⟩, by decide⟩
theorem inX5_cut_X5 : ∀ w ∈ wsX50, w ∈ wsX5_cut := fun w h => List.mem_cons_of_mem _ (List.mem_append_right _ h)
theorem fX5_cut_63 : aFL wsX5_cut RX5 63 5 21 := ⟨_, _, _, rfl, inX5_cut_X5, by decide, by decide +kernel⟩
theorem vX5_cutAt_85 : aCV wsX5_cutAt rmX5_cutAt RX5 85 5 yX5_isPlace wsX5_isPlace rmX5_isPlace 1 := ⟨TX5, _, _, _, _, _, rfl, gX5_cutAt_X5_isPlace, rfl, rfl, rfl, ⟨by decide +kernel, by decide +kernel, by decide +kernel⟩, by decide⟩
theorem vX5_cutAt_130 : aCV wsX5_cutAt rmX5_cutAt RX5 130 5 yX5_layCut wsX5_layCut rmX5_layCut 0 := ⟨TX5, _, _, _, _, _, rfl, gX5_cutAt_X5_layCut, rfl, rfl, rfl, ⟨by decide +kernel, by decide +kernel, by decide +kernel⟩, by decide⟩
theorem inX5_cutAt_X5 : ∀ w ∈ wsX50, w ∈ wsX5_cutAt := fun w h => List.mem_cons_of_mem _ (List.mem_append_right _ h)
theorem fX5_cutAt_66 : aFL wsX5_cutAt RX5 66 5 22 := ⟨_, _, _, rfl, inX5_cutAt_X5, by decide, by decide +kernel⟩
theorem fX5_cutAt_48 : aFL wsX5_cutAt RX5 48 5 15 := ⟨_, _, _, rfl, inX5_cutAt_X5, by decide, by decide +kernel⟩
theorem inX5_grade_X5 : ∀ w ∈ wsX50, w ∈ wsX5_grade := fun w h => List.mem_cons_of_mem _ (List.mem_append_right _ h)
theorem fX5_grade_133 : aFL wsX5_grade RX5 133 5 18 := ⟨_, _, _, rfl, inX5_grade_X5, by decide, by decide +kernel⟩
theorem fX5_grade_57 : aFL wsX5_grade RX5 57 5 19 := ⟨_, _, _, rfl, inX5_grade_X5, by decide, by decide +kernel⟩
theorem pX5_grade_133 : aFP wsX5_grade RX5 133 5 18 false := ⟨_, _, _, tyX5, rfl, inX5_grade_X5, tyX5_ok, nmX5, by decide, by decide +kernel, rfl, rfl⟩
theorem inX5_isGrade_X5 : ∀ w ∈ wsX50, w ∈ wsX5_isGrade := fun w h => List.mem_cons_of_mem _ (List.mem_append_right _ h)
theorem fX5_isGrade_133 : aFL wsX5_isGrade RX5 133 5 18 := ⟨_, _, _, rfl, inX5_isGrade_X5, by decide, by decide +kernel⟩
theorem vX5_isGrade_75 : aCS wsX5_isGrade rmX5_isGrade RX5 75 yX5_in wsX5_in rmX5_in 3 := ⟨_, _, _, _, gX5_isGrade_X5_in, rfl, rfl, rfl, ⟨by decide +kernel, by decide +kernel, by decide +kernel⟩, by decide⟩
theorem vX5_cost_136 : aCV wsX5_cost rmX5_cost RX5 136 5 yX5_isGrade wsX5_isGrade rmX5_isGrade 1 := ⟨TX5, _, _, _, _, _, rfl, gX5_cost_X5_isGrade, rfl, rfl, rfl, ⟨by decide +kernel, by decide +kernel, by decide +kernel⟩, by decide⟩
theorem vX5_cost_75 : aCS wsX5_cost rmX5_cost RX5 75 yX5_in wsX5_in rmX5_in 3 := ⟨_, _, _, _, gX5_cost_X5_in, rfl, rfl, rfl, ⟨by decide +kernel, by decide +kernel, by decide +kernel⟩, by decide⟩
theorem inX5_cost_X5 : ∀ w ∈ wsX50, w ∈ wsX5_cost := fun w h => List.mem_cons_of_mem _ (List.mem_append_right _ h)
theorem fX5_cost_57 : aFL wsX5_cost RX5 57 5 19 := ⟨_, _, _, rfl, inX5_cost_X5, by decide, by decide +kernel⟩
theorem inX5_layRest_X5 : ∀ w ∈ wsX50, w ∈ wsX5_layRest := fun w h => List.mem_cons_of_mem _ (List.mem_append_right _ h)
theorem fX5_layRest_133 : aFL wsX5_layRest RX5 133 5 18 := ⟨_, _, _, rfl, inX5_layRest_X5, by decide, by decide +kernel⟩
theorem fX5_layRest_57 : aFL wsX5_layRest RX5 57 5 19 := ⟨_, _, _, rfl, inX5_layRest_X5, by decide, by decide +kernel⟩
theorem fX5_layRest_69 : aFL wsX5_layRest RX5 69 5 23 := ⟨_, _, _, rfl, inX5_layRest_X5, by decide, by decide +kernel⟩
theorem vX5_tour_136 : aCV wsX5_tour rmX5_tour RX5 136 5 yX5_isGrade wsX5_isGrade rmX5_isGrade 1 := ⟨TX5, _, _, _, _, _, rfl, gX5_tour_X5_isGrade, rfl, rfl, rfl, ⟨by decide +kernel, by decide +kernel, by decide +kernel⟩, by decide⟩
theorem vX5_tour_139 : aCV wsX5_tour rmX5_tour RX5 139 5 yX5_layRest wsX5_layRest rmX5_layRest 0 := ⟨TX5, _, _, _, _, _, rfl, gX5_tour_X5_layRest, rfl, rfl, rfl, ⟨by decide +kernel, by decide +kernel, by decide +kernel⟩, by decide⟩
theorem inX5_tour_X5 : ∀ w ∈ wsX50, w ∈ wsX5_tour := fun w h => List.mem_cons_of_mem _ (List.mem_append_right _ h)
theorem fX5_tour_69 : aFL wsX5_tour RX5 69 5 23 := ⟨_, _, _, rfl, inX5_tour_X5, by decide, by decide +kernel⟩
theorem vX5_tourAt_136 : aCV wsX5_tourAt rmX5_tourAt RX5 136 5 yX5_isGrade wsX5_isGrade rmX5_isGrade 1 := ⟨TX5, _, _, _, _, _, rfl, gX5_tourAt_X5_isGrade, rfl, rfl, rfl, ⟨by decide +kernel, by decide +kernel, by decide +kernel⟩, by decide⟩
theorem inX5_tourAt_X5 : ∀ w ∈ wsX50, w ∈ wsX5_tourAt := fun w h => List.mem_cons_of_mem _ (List.mem_append_right _ h)
theorem fX5_tourAt_133 : aFL wsX5_tourAt RX5 133 5 18 := ⟨_, _, _, rfl, inX5_tourAt_X5, by decide, by decide +kernel⟩
theorem vX5_tourAt_75 : aCS wsX5_tourAt rmX5_tourAt RX5 75 yX5_in wsX5_in rmX5_in 3 := ⟨_, _, _, _, gX5_tourAt_X5_in, rfl, rfl, rfl, ⟨by decide +kernel, by decide +kernel, by decide +kernel⟩, by decide⟩
theorem vX5_tourAt_139 : aCV wsX5_tourAt rmX5_tourAt RX5 139 5 yX5_layRest wsX5_layRest rmX5_layRest 0 := ⟨TX5, _, _, _, _, _, rfl, gX5_tourAt_X5_layRest, rfl, rfl, rfl, ⟨by decide +kernel, by decide +kernel, by decide +kernel⟩, by decide⟩
theorem fX5_tourAt_57 : aFL wsX5_tourAt RX5 57 5 19 := ⟨_, _, _, rfl, inX5_tourAt_X5, by decide, by decide +kernel⟩
theorem fX5_tourAt_69 : aFL wsX5_tourAt RX5 69 5 23 := ⟨_, _, _, rfl, inX5_tourAt_X5, by decide, by decide +kernel⟩
theorem inX5_fitting_X5 : ∀ w ∈ wsX50, w ∈ wsX5_fitting := fun w h => List.mem_cons_of_mem _ (List.mem_append_right _ h)
theorem fX5_fitting_79 : aFL wsX5_fitting RX5 79 5 1 := ⟨_, _, _, rfl, inX5_fitting_X5, by decide, by decide +kernel⟩
theorem fX5_fitting_23 : aFL wsX5_fitting RX5 23 5 5 := ⟨_, _, _, rfl, inX5_fitting_X5, by decide, by decide +kernel⟩
theorem inX5_told_X5 : ∀ w ∈ wsX50, w ∈ wsX5_told := fun w h => List.mem_cons_of_mem _ (List.mem_append_right _ h)
theorem fX5_told_7 : aFL wsX5_told RX5 7 5 0 := ⟨_, _, _, rfl, inX5_told_X5, by decide, by decide +kernel⟩
theorem fX5_told_79 : aFL wsX5_told RX5 79 5 1 := ⟨_, _, _, rfl, inX5_told_X5, by decide, by decide +kernel⟩
theorem vX5_told_142 : aCV wsX5_told rmX5_told RX5 142 5 yX5_fitting wsX5_fitting rmX5_fitting 0 := ⟨TX5, _, _, _, _, _, rfl, gX5_told_X5_fitting, rfl, rfl, rfl, ⟨by decide +kernel, by decide +kernel, by decide +kernel⟩, by decide⟩
theorem fX5_told_82 : aFL wsX5_told RX5 82 5 14 := ⟨_, _, _, rfl, inX5_told_X5, by decide, by decide +kernel⟩
theorem fX5_told_133 : aFL wsX5_told RX5 133 5 18 := ⟨_, _, _, rfl, inX5_told_X5, by decide, by decide +kernel⟩
theorem fX5_told_39 : aFL wsX5_told RX5 39 5 10 := ⟨_, _, _, rfl, inX5_told_X5, by decide, by decide +kernel⟩
theorem fX5_told_42 : aFL wsX5_told RX5 42 5 11 := ⟨_, _, _, rfl, inX5_told_X5, by decide, by decide +kernel⟩
theorem fX5_told_45 : aFL wsX5_told RX5 45 5 12 := ⟨_, _, _, rfl, inX5_told_X5, by decide, by decide +kernel⟩
theorem fX5_told_106 : aFL wsX5_told RX5 106 5 13 := ⟨_, _, _, rfl, inX5_told_X5, by decide, by decide +kernel⟩
