abbrev iX4_reset : ux_I := (cX4_reset, 1, RX4, none, [])
theorem kX4_reset : ux_lk yX4_reset iX4_reset 0 := ⟨ux_mem (n := 177) (by decide +kernel) (by decide +kernel), ux_mem (n := 138) (by decide +kernel) (by decide +kernel), ⟨by decide +kernel, by decide +kernel⟩, by decide +kernel, by decide +kernel, rfl⟩
abbrev iX5_fill : ux_I := (cX5_fill, 3, RX5, none, [])
theorem kX5_fill : ux_lk yX5_fill iX5_fill 2 := ⟨ux_mem (n := 180) (by decide +kernel) (by decide +kernel), ux_mem (n := 137) (by decide +kernel) (by decide +kernel), ⟨by decide +kernel, by decide +kernel⟩, by decide +kernel, by decide +kernel, rfl⟩
abbrev iX5_clear : ux_I := (cX5_clear, 2, RX5, (some .int), [])
theorem kX5_clear : ux_lk yX5_clear iX5_clear 0 := ⟨ux_mem (n := 425) (by decide +kernel) (by decide +kernel), ux_mem (n := 137) (by decide +kernel) (by decide +kernel), ⟨by decide +kernel, by decide +kernel⟩, by decide +kernel, by decide +kernel, rfl⟩
abbrev iX0_forget : ux_I := (cX0_forget, 1, RX0, none, [])
theorem kX0_forget : ux_lk yX0_forget iX0_forget 0 := ⟨ux_mem (n := 430) (by decide +kernel) (by decide +kernel), ux_mem (n := 139) (by decide +kernel) (by decide +kernel), ⟨by decide +kernel, by decide +kernel⟩, by decide +kernel, by decide +kernel, rfl⟩
abbrev iX5_audit : ux_I := (cX5_audit, 3, RX5, (some .int), [])
theorem kX5_audit : ux_lk yX5_audit iX5_audit 0 := ⟨ux_mem (n := 434) (by decide +kernel) (by decide +kernel), ux_mem (n := 137) (by decide +kernel) (by decide +kernel), ⟨by decide +kernel, by decide +kernel⟩, by decide +kernel, by decide +kernel, rfl⟩
abbrev iX5_at : ux_I := (cX5_at, 2, RX5, (some .int), [])
theorem kX5_at : ux_lk yX5_at iX5_at 2 := ⟨ux_mem (n := 437) (by decide +kernel) (by decide +kernel), ux_mem (n := 137) (by decide +kernel) (by decide +kernel), ⟨by decide +kernel, by decide +kernel⟩, by decide +kernel, by decide +kernel, rfl⟩
abbrev iX4_pointsFoundAnew : ux_I := (cX4_pointsFoundAnew, 5, RX4, (some .int), [])
theorem kX4_pointsFoundAnew : ux_lk yX4_pointsFoundAnew iX4_pointsFoundAnew 1 := ⟨ux_mem (n := 441) (by decide +kernel) (by decide +kernel), ux_mem (n := 138) (by decide +kernel) (by decide +kernel), ⟨by decide +kernel, by decide +kernel⟩, by decide +kernel, by decide +kernel, rfl⟩
abbrev iX4_stateOf : ux_I := (cX4_stateOf, 3, RX4, (some .int), [])
theorem kX4_stateOf : ux_lk yX4_stateOf iX4_stateOf 1 := ⟨ux_mem (n := 445) (by decide +kernel) (by decide +kernel), ux_mem (n := 138) (by decide +kernel) (by decide +kernel), ⟨by decide +kernel, by decide +kernel⟩, by decide +kernel, by decide +kernel, rfl⟩
abbrev iX4_actingOf : ux_I := (cX4_actingOf, 4, RX4, (some .int), [])
theorem kX4_actingOf : ux_lk yX4_actingOf iX4_actingOf 1 := ⟨ux_mem (n := 449) (by decide +kernel) (by decide +kernel), ux_mem (n := 138) (by decide +kernel) (by decide +kernel), ⟨by decide +kernel, by decide +kernel⟩, by decide +kernel, by decide +kernel, rfl⟩
abbrev iX4_pointsFor : ux_I := (cX4_pointsFor, 5, RX4, (some .int), [])
theorem kX4_pointsFor : ux_lk yX4_pointsFor iX4_pointsFor 2 := ⟨ux_mem (n := 454) (by decide +kernel) (by decide +kernel), ux_mem (n := 138) (by decide +kernel) (by decide +kernel), ⟨by decide +kernel, by decide +kernel⟩, by decide +kernel, by decide +kernel, rfl⟩
abbrev iX4_hasSubject : ux_I := (cX4_hasSubject, 3, RX4, (some .boolean), [])
theorem kX4_hasSubject : ux_lk yX4_hasSubject iX4_hasSubject 2 := ⟨ux_mem (n := 458) (by decide +kernel) (by decide +kernel), ux_mem (n := 138) (by decide +kernel) (by decide +kernel), ⟨by decide +kernel, by decide +kernel⟩, by decide +kernel, by decide +kernel, rfl⟩
abbrev iX5_save : ux_I := (cX5_save, 1, RX5, (some .int), [])
theorem kX5_save : ux_lk yX5_save iX5_save 0 := ⟨ux_mem (n := 462) (by decide +kernel) (by decide +kernel), ux_mem (n := 137) (by decide +kernel) (by decide +kernel), ⟨by decide +kernel, by decide +kernel⟩, by decide +kernel, by decide +kernel, rfl⟩
abbrev iX4_copyFrom : ux_I := (cX4_copyFrom, 2, RX4, none, [])
theorem kX4_copyFrom : ux_lk yX4_copyFrom iX4_copyFrom 1 := ⟨ux_mem (n := 466) (by decide +kernel) (by decide +kernel), ux_mem (n := 138) (by decide +kernel) (by decide +kernel), ⟨by decide +kernel, by decide +kernel⟩, by decide +kernel, by decide +kernel, rfl⟩
abbrev iX5_copy : ux_I := (cX5_copy, 3, RX5, none, [])
theorem kX5_copy : ux_lk yX5_copy iX5_copy 2 := ⟨ux_mem (n := 469) (by decide +kernel) (by decide +kernel), ux_mem (n := 137) (by decide +kernel) (by decide +kernel), ⟨by decide +kernel, by decide +kernel⟩, by decide +kernel, by decide +kernel, rfl⟩
abbrev iL_addTeacher : ux_I := (cL_addTeacher, 5, RL, (some .int), [(0, 10, 13, 13), (0, 10, 17, 15)])
theorem kL_addTeacher : ux_lk yL_addTeacher iL_addTeacher 4 := ⟨ux_mem (n := 472) (by decide +kernel) (by decide +kernel), ux_mem (n := 136) (by decide +kernel) (by decide +kernel), ⟨by decide +kernel, by decide +kernel⟩, by decide +kernel, by decide +kernel, rfl⟩
abbrev iX5_addTeacher : ux_I := (cX5_addTeacher, 3, RX5, (some .int), [])
theorem kX5_addTeacher : ux_lk yX5_addTeacher iX5_addTeacher 2 := ⟨ux_mem (n := 478) (by decide +kernel) (by decide +kernel), ux_mem (n := 137) (by decide +kernel) (by decide +kernel), ⟨by decide +kernel, by decide +kernel⟩, by decide +kernel, by decide +kernel, rfl⟩
abbrev iX5_needRange : ux_I := (cX5_needRange, 3, RX5, none, [])
theorem kX5_needRange : ux_lk yX5_needRange iX5_needRange 3 := ⟨ux_mem (n := 481) (by decide +kernel) (by decide +kernel), ux_mem (n := 137) (by decide +kernel) (by decide +kernel), ⟨by decide +kernel, by decide +kernel⟩, by decide +kernel, by decide +kernel, rfl⟩
abbrev iX5_isWithin : ux_I := (cX5_isWithin, 3, RX5, (some .boolean), [])
theorem kX5_isWithin : ux_lk yX5_isWithin iX5_isWithin 3 := ⟨ux_mem (n := 484) (by decide +kernel) (by decide +kernel), ux_mem (n := 137) (by decide +kernel) (by decide +kernel), ⟨by decide +kernel, by decide +kernel⟩, by decide +kernel, by decide +kernel, rfl⟩
abbrev iX0_remember : ux_I := (cX0_remember, 3, RX0, none, [])
theorem kX0_remember : ux_lk yX0_remember iX0_remember 1 := ⟨ux_mem (n := 576) (by decide +kernel) (by decide +kernel), ux_mem (n := 139) (by decide +kernel) (by decide +kernel), ⟨by decide +kernel, by decide +kernel⟩, by decide +kernel, by decide +kernel, rfl⟩
abbrev iX0_newestPast : ux_I := (cX0_newestPast, 1, RX0, (some (.object "SubstituteDesk$School")), [])
theorem kX0_newestPast : ux_lk yX0_newestPast iX0_newestPast 0 := ⟨ux_mem (n := 580) (by decide +kernel) (by decide +kernel), ux_mem (n := 139) (by decide +kernel) (by decide +kernel), ⟨by decide +kernel, by decide +kernel⟩, by decide +kernel, by decide +kernel, rfl⟩
abbrev iX4_putTeacher : ux_I := (cX4_putTeacher, 4, RX4, (some .int), [])
theorem kX4_putTeacher : ux_lk yX4_putTeacher iX4_putTeacher 2 := ⟨ux_mem (n := 588) (by decide +kernel) (by decide +kernel), ux_mem (n := 138) (by decide +kernel) (by decide +kernel), ⟨by decide +kernel, by decide +kernel⟩, by decide +kernel, by decide +kernel, rfl⟩
abbrev iX5_put : ux_I := (cX5_put, 3, RX5, none, [])
theorem kX5_put : ux_lk yX5_put iX5_put 3 := ⟨ux_mem (n := 591) (by decide +kernel) (by decide +kernel), ux_mem (n := 137) (by decide +kernel) (by decide +kernel), ⟨by decide +kernel, by decide +kernel⟩, by decide +kernel, by decide +kernel, rfl⟩
abbrev iL_setLimit : ux_I := (cL_setLimit, 5, RL, (some .int), [(0, 10, 13, 20), (0, 10, 17, 13)])
theorem kL_setLimit : ux_lk yL_setLimit iL_setLimit 4 := ⟨ux_mem (n := 594) (by decide +kernel) (by decide +kernel), ux_mem (n := 136) (by decide +kernel) (by decide +kernel), ⟨by decide +kernel, by decide +kernel⟩, by decide +kernel, by decide +kernel, rfl⟩
abbrev iX5_setLimit : ux_I := (cX5_setLimit, 3, RX5, (some .int), [])
theorem kX5_setLimit : ux_lk yX5_setLimit iX5_setLimit 2 := ⟨ux_mem (n := 622) (by decide +kernel) (by decide +kernel), ux_mem (n := 137) (by decide +kernel) (by decide +kernel), ⟨by decide +kernel, by decide +kernel⟩, by decide +kernel, by decide +kernel, rfl⟩
abbrev iX5_needTeacher : ux_I := (cX5_needTeacher, 2, RX5, none, [])
theorem kX5_needTeacher : ux_lk yX5_needTeacher iX5_needTeacher 1 := ⟨ux_mem (n := 626) (by decide +kernel) (by decide +kernel), ux_mem (n := 137) (by decide +kernel) (by decide +kernel), ⟨by decide +kernel, by decide +kernel⟩, by decide +kernel, by decide +kernel, rfl⟩
abbrev iX5_needIndex : ux_I := (cX5_needIndex, 2, RX5, none, [])
theorem kX5_needIndex : ux_lk yX5_needIndex iX5_needIndex 2 := ⟨ux_mem (n := 629) (by decide +kernel) (by decide +kernel), ux_mem (n := 137) (by decide +kernel) (by decide +kernel), ⟨by decide +kernel, by decide +kernel⟩, by decide +kernel, by decide +kernel, rfl⟩
abbrev iX5_swap : ux_I := (cX5_swap, 4, RX5, (some .int), [])
theorem kX5_swap : ux_lk yX5_swap iX5_swap 3 := ⟨ux_mem (n := 645) (by decide +kernel) (by decide +kernel), ux_mem (n := 137) (by decide +kernel) (by decide +kernel), ⟨by decide +kernel, by decide +kernel⟩, by decide +kernel, by decide +kernel, rfl⟩
abbrev iL_setSize : ux_I := (cL_setSize, 5, RL, (some .int), [(0, 10, 13, 20), (0, 10, 17, 13), (0, 10, 21, 15)])
theorem kL_setSize : ux_lk yL_setSize iL_setSize 4 := ⟨ux_mem (n := 649) (by decide +kernel) (by decide +kernel), ux_mem (n := 136) (by decide +kernel) (by decide +kernel), ⟨by decide +kernel, by decide +kernel⟩, by decide +kernel, by decide +kernel, rfl⟩
abbrev iX5_setSize : ux_I := (cX5_setSize, 3, RX5, (some .int), [])
theorem kX5_setSize : ux_lk yX5_setSize iX5_setSize 2 := ⟨ux_mem (n := 653) (by decide +kernel) (by decide +kernel), ux_mem (n := 137) (by decide +kernel) (by decide +kernel), ⟨by decide +kernel, by decide +kernel⟩, by decide +kernel, by decide +kernel, rfl⟩
abbrev iX4_allowsSize : ux_I := (cX4_allowsSize, 4, RX4, (some .boolean), [])
theorem kX4_allowsSize : ux_lk yX4_allowsSize iX4_allowsSize 2 := ⟨ux_mem (n := 657) (by decide +kernel) (by decide +kernel), ux_mem (n := 138) (by decide +kernel) (by decide +kernel), ⟨by decide +kernel, by decide +kernel⟩, by decide +kernel, by decide +kernel, rfl⟩
abbrev iX4_guestsOf : ux_I := (cX4_guestsOf, 4, RX4, (some .int), [])
theorem kX4_guestsOf : ux_lk yX4_guestsOf iX4_guestsOf 1 := ⟨ux_mem (n := 661) (by decide +kernel) (by decide +kernel), ux_mem (n := 138) (by decide +kernel) (by decide +kernel), ⟨by decide +kernel, by decide +kernel⟩, by decide +kernel, by decide +kernel, rfl⟩
abbrev iX4_firstPart : ux_I := (cX4_firstPart, 2, RX4, (some .int), [])
theorem kX4_firstPart : ux_lk yX4_firstPart iX4_firstPart 1 := ⟨ux_mem (n := 665) (by decide +kernel) (by decide +kernel), ux_mem (n := 138) (by decide +kernel) (by decide +kernel), ⟨by decide +kernel, by decide +kernel⟩, by decide +kernel, by decide +kernel, rfl⟩
abbrev iX4_sizeOf : ux_I := (cX4_sizeOf, 2, RX4, (some .int), [])
theorem kX4_sizeOf : ux_lk yX4_sizeOf iX4_sizeOf 1 := ⟨ux_mem (n := 669) (by decide +kernel) (by decide +kernel), ux_mem (n := 138) (by decide +kernel) (by decide +kernel), ⟨by decide +kernel, by decide +kernel⟩, by decide +kernel, by decide +kernel, rfl⟩
abbrev iX4_secondPart : ux_I := (cX4_secondPart, 2, RX4, (some .int), [])
theorem kX4_secondPart : ux_lk yX4_secondPart iX4_secondPart 1 := ⟨ux_mem (n := 673) (by decide +kernel) (by decide +kernel), ux_mem (n := 138) (by decide +kernel) (by decide +kernel), ⟨by decide +kernel, by decide +kernel⟩, by decide +kernel, by decide +kernel, rfl⟩
abbrev iX4_capacityOf : ux_I := (cX4_capacityOf, 2, RX4, (some .int), [])
theorem kX4_capacityOf : ux_lk yX4_capacityOf iX4_capacityOf 1 := ⟨ux_mem (n := 677) (by decide +kernel) (by decide +kernel), ux_mem (n := 138) (by decide +kernel) (by decide +kernel), ⟨by decide +kernel, by decide +kernel⟩, by decide +kernel, by decide +kernel, rfl⟩
abbrev iL_setCapacity : ux_I := (cL_setCapacity, 5, RL, (some .int), [(0, 10, 13, 20), (0, 10, 17, 13), (0, 10, 21, 15)])
theorem kL_setCapacity : ux_lk yL_setCapacity iL_setCapacity 4 := ⟨ux_mem (n := 681) (by decide +kernel) (by decide +kernel), ux_mem (n := 136) (by decide +kernel) (by decide +kernel), ⟨by decide +kernel, by decide +kernel⟩, by decide +kernel, by decide +kernel, rfl⟩
abbrev iX5_setCapacity : ux_I := (cX5_setCapacity, 3, RX5, (some .int), [])
theorem kX5_setCapacity : ux_lk yX5_setCapacity iX5_setCapacity 2 := ⟨ux_mem (n := 685) (by decide +kernel) (by decide +kernel), ux_mem (n := 137) (by decide +kernel) (by decide +kernel), ⟨by decide +kernel, by decide +kernel⟩, by decide +kernel, by decide +kernel, rfl⟩
abbrev iX4_allowsCapacity : ux_I := (cX4_allowsCapacity, 4, RX4, (some .boolean), [])
theorem kX4_allowsCapacity : ux_lk yX4_allowsCapacity iX4_allowsCapacity 2 := ⟨ux_mem (n := 689) (by decide +kernel) (by decide +kernel), ux_mem (n := 138) (by decide +kernel) (by decide +kernel), ⟨by decide +kernel, by decide +kernel⟩, by decide +kernel, by decide +kernel, rfl⟩
abbrev iX4_loadOf : ux_I := (cX4_loadOf, 2, RX4, (some .int), [])
theorem kX4_loadOf : ux_lk yX4_loadOf iX4_loadOf 1 := ⟨ux_mem (n := 693) (by decide +kernel) (by decide +kernel), ux_mem (n := 138) (by decide +kernel) (by decide +kernel), ⟨by decide +kernel, by decide +kernel⟩, by decide +kernel, by decide +kernel, rfl⟩
abbrev iL_addLesson : ux_I := (cL_addLesson, 8, RL, (some .int), [(0, 16, 19, 13), (0, 16, 23, 32), (0, 16, 27, 15)])
theorem kL_addLesson : ux_lk yL_addLesson iL_addLesson 7 := ⟨ux_mem (n := 697) (by decide +kernel) (by decide +kernel), ux_mem (n := 136) (by decide +kernel) (by decide +kernel), ⟨by decide +kernel, by decide +kernel⟩, by decide +kernel, by decide +kernel, rfl⟩
abbrev iX5_addLesson : ux_I := (cX5_addLesson, 6, RX5, (some .int), [])
theorem kX5_addLesson : ux_lk yX5_addLesson iX5_addLesson 5 := ⟨ux_mem (n := 702) (by decide +kernel) (by decide +kernel), ux_mem (n := 137) (by decide +kernel) (by decide +kernel), ⟨by decide +kernel, by decide +kernel⟩, by decide +kernel, by decide +kernel, rfl⟩
abbrev iX4_faultOfLesson : ux_I := (cX4_faultOfLesson, 6, RX4, (some .int), [])
theorem kX4_faultOfLesson : ux_lk yX4_faultOfLesson iX4_faultOfLesson 5 := ⟨ux_mem (n := 706) (by decide +kernel) (by decide +kernel), ux_mem (n := 138) (by decide +kernel) (by decide +kernel), ⟨by decide +kernel, by decide +kernel⟩, by decide +kernel, by decide +kernel, rfl⟩
abbrev iX4_lessonIn : ux_I := (cX4_lessonIn, 5, RX4, (some .int), [])
theorem kX4_lessonIn : ux_lk yX4_lessonIn iX4_lessonIn 3 := ⟨ux_mem (n := 711) (by decide +kernel) (by decide +kernel), ux_mem (n := 138) (by decide +kernel) (by decide +kernel), ⟨by decide +kernel, by decide +kernel⟩, by decide +kernel, by decide +kernel, rfl⟩
abbrev iX4_putLesson : ux_I := (cX4_putLesson, 7, RX4, (some .int), [])
theorem kX4_putLesson : ux_lk yX4_putLesson iX4_putLesson 5 := ⟨ux_mem (n := 732) (by decide +kernel) (by decide +kernel), ux_mem (n := 138) (by decide +kernel) (by decide +kernel), ⟨by decide +kernel, by decide +kernel⟩, by decide +kernel, by decide +kernel, rfl⟩
abbrev iL_removeLesson : ux_I := (cL_removeLesson, 4, RL, (some .int), [(0, 9, 12, 20)])
theorem kL_removeLesson : ux_lk yL_removeLesson iL_removeLesson 3 := ⟨ux_mem (n := 735) (by decide +kernel) (by decide +kernel), ux_mem (n := 136) (by decide +kernel) (by decide +kernel), ⟨by decide +kernel, by decide +kernel⟩, by decide +kernel, by decide +kernel, rfl⟩
abbrev iX5_removeLesson : ux_I := (cX5_removeLesson, 2, RX5, (some .int), [])
theorem kX5_removeLesson : ux_lk yX5_removeLesson iX5_removeLesson 1 := ⟨ux_mem (n := 739) (by decide +kernel) (by decide +kernel), ux_mem (n := 137) (by decide +kernel) (by decide +kernel), ⟨by decide +kernel, by decide +kernel⟩, by decide +kernel, by decide +kernel, rfl⟩
abbrev iX5_needLesson : ux_I := (cX5_needLesson, 2, RX5, none, [])
theorem kX5_needLesson : ux_lk yX5_needLesson iX5_needLesson 1 := ⟨ux_mem (n := 743) (by decide +kernel) (by decide +kernel), ux_mem (n := 137) (by decide +kernel) (by decide +kernel), ⟨by decide +kernel, by decide +kernel⟩, by decide +kernel, by decide +kernel, rfl⟩
abbrev iX4_dropLesson : ux_I := (cX4_dropLesson, 2, RX4, none, [])
theorem kX4_dropLesson : ux_lk yX4_dropLesson iX4_dropLesson 1 := ⟨ux_mem (n := 747) (by decide +kernel) (by decide +kernel), ux_mem (n := 138) (by decide +kernel) (by decide +kernel), ⟨by decide +kernel, by decide +kernel⟩, by decide +kernel, by decide +kernel, rfl⟩
abbrev iX4_endAllWith : ux_I := (cX4_endAllWith, 4, RX4, (some .int), [])
theorem kX4_endAllWith : ux_lk yX4_endAllWith iX4_endAllWith 1 := ⟨ux_mem (n := 751) (by decide +kernel) (by decide +kernel), ux_mem (n := 138) (by decide +kernel) (by decide +kernel), ⟨by decide +kernel, by decide +kernel⟩, by decide +kernel, by decide +kernel, rfl⟩
abbrev iX4_endSplitsWith : ux_I := (cX4_endSplitsWith, 4, RX4, (some .int), [])
theorem kX4_endSplitsWith : ux_lk yX4_endSplitsWith iX4_endSplitsWith 1 := ⟨ux_mem (n := 755) (by decide +kernel) (by decide +kernel), ux_mem (n := 138) (by decide +kernel) (by decide +kernel), ⟨by decide +kernel, by decide +kernel⟩, by decide +kernel, by decide +kernel, rfl⟩
abbrev iX4_isSplitWith : ux_I := (cX4_isSplitWith, 4, RX4, (some .boolean), [])
theorem kX4_isSplitWith : ux_lk yX4_isSplitWith iX4_isSplitWith 2 := ⟨ux_mem (n := 759) (by decide +kernel) (by decide +kernel), ux_mem (n := 138) (by decide +kernel) (by decide +kernel), ⟨by decide +kernel, by decide +kernel⟩, by decide +kernel, by decide +kernel, rfl⟩
abbrev iX4_endSplit : ux_I := (cX4_endSplit, 2, RX4, none, [])
theorem kX4_endSplit : ux_lk yX4_endSplit iX4_endSplit 1 := ⟨ux_mem (n := 763) (by decide +kernel) (by decide +kernel), ux_mem (n := 138) (by decide +kernel) (by decide +kernel), ⟨by decide +kernel, by decide +kernel⟩, by decide +kernel, by decide +kernel, rfl⟩
abbrev iX4_addPoints : ux_I := (cX4_addPoints, 3, RX4, none, [])
theorem kX4_addPoints : ux_lk yX4_addPoints iX4_addPoints 2 := ⟨ux_mem (n := 767) (by decide +kernel) (by decide +kernel), ux_mem (n := 138) (by decide +kernel) (by decide +kernel), ⟨by decide +kernel, by decide +kernel⟩, by decide +kernel, by decide +kernel, rfl⟩
abbrev iX4_endCover : ux_I := (cX4_endCover, 3, RX4, (some .int), [])
theorem kX4_endCover : ux_lk yX4_endCover iX4_endCover 1 := ⟨ux_mem (n := 771) (by decide +kernel) (by decide +kernel), ux_mem (n := 138) (by decide +kernel) (by decide +kernel), ⟨by decide +kernel, by decide +kernel⟩, by decide +kernel, by decide +kernel, rfl⟩
abbrev iX5_dropFrom : ux_I := (cX5_dropFrom, 3, RX5, none, [])
theorem kX5_dropFrom : ux_lk yX5_dropFrom iX5_dropFrom 2 := ⟨ux_mem (n := 774) (by decide +kernel) (by decide +kernel), ux_mem (n := 137) (by decide +kernel) (by decide +kernel), ⟨by decide +kernel, by decide +kernel⟩, by decide +kernel, by decide +kernel, rfl⟩
abbrev iX4_moveHosts : ux_I := (cX4_moveHosts, 4, RX4, none, [])
theorem kX4_moveHosts : ux_lk yX4_moveHosts iX4_moveHosts 2 := ⟨ux_mem (n := 781) (by decide +kernel) (by decide +kernel), ux_mem (n := 138) (by decide +kernel) (by decide +kernel), ⟨by decide +kernel, by decide +kernel⟩, by decide +kernel, by decide +kernel, rfl⟩
abbrev iL_setRoom : ux_I := (cL_setRoom, 5, RL, (some .int), [(0, 10, 13, 20), (0, 10, 17, 13), (0, 10, 21, 15)])
theorem kL_setRoom : ux_lk yL_setRoom iL_setRoom 4 := ⟨ux_mem (n := 784) (by decide +kernel) (by decide +kernel), ux_mem (n := 136) (by decide +kernel) (by decide +kernel), ⟨by decide +kernel, by decide +kernel⟩, by decide +kernel, by decide +kernel, rfl⟩
abbrev iX5_setRoom : ux_I := (cX5_setRoom, 3, RX5, (some .int), [])
theorem kX5_setRoom : ux_lk yX5_setRoom iX5_setRoom 2 := ⟨ux_mem (n := 788) (by decide +kernel) (by decide +kernel), ux_mem (n := 137) (by decide +kernel) (by decide +kernel), ⟨by decide +kernel, by decide +kernel⟩, by decide +kernel, by decide +kernel, rfl⟩
abbrev iX4_allowsRoom : ux_I := (cX4_allowsRoom, 4, RX4, (some .boolean), [])
theorem kX4_allowsRoom : ux_lk yX4_allowsRoom iX4_allowsRoom 2 := ⟨ux_mem (n := 792) (by decide +kernel) (by decide +kernel), ux_mem (n := 138) (by decide +kernel) (by decide +kernel), ⟨by decide +kernel, by decide +kernel⟩, by decide +kernel, by decide +kernel, rfl⟩
abbrev iL_count : ux_I := (cL_count, 4, RL, (some .int), [(0, 9, 12, 13)])
theorem kL_count : ux_lk yL_count iL_count 3 := ⟨ux_mem (n := 796) (by decide +kernel) (by decide +kernel), ux_mem (n := 136) (by decide +kernel) (by decide +kernel), ⟨by decide +kernel, by decide +kernel⟩, by decide +kernel, by decide +kernel, rfl⟩
abbrev iX5_count : ux_I := (cX5_count, 2, RX5, (some .int), [])
theorem kX5_count : ux_lk yX5_count iX5_count 1 := ⟨ux_mem (n := 800) (by decide +kernel) (by decide +kernel), ux_mem (n := 137) (by decide +kernel) (by decide +kernel), ⟨by decide +kernel, by decide +kernel⟩, by decide +kernel, by decide +kernel, rfl⟩
abbrev iX4_lessonsIn : ux_I := (cX4_lessonsIn, 4, RX4, (some .int), [])
theorem kX4_lessonsIn : ux_lk yX4_lessonsIn iX4_lessonsIn 1 := ⟨ux_mem (n := 804) (by decide +kernel) (by decide +kernel), ux_mem (n := 138) (by decide +kernel) (by decide +kernel), ⟨by decide +kernel, by decide +kernel⟩, by decide +kernel, by decide +kernel, rfl⟩
abbrev iL_lesson : ux_I := (cL_lesson, 5, RL, (some .int), [(0, 10, 13, 20), (0, 10, 17, 13)])
theorem kL_lesson : ux_lk yL_lesson iL_lesson 4 := ⟨ux_mem (n := 808) (by decide +kernel) (by decide +kernel), ux_mem (n := 136) (by decide +kernel) (by decide +kernel), ⟨by decide +kernel, by decide +kernel⟩, by decide +kernel, by decide +kernel, rfl⟩
abbrev iX5_lesson : ux_I := (cX5_lesson, 3, RX5, (some .int), [])
theorem kX5_lesson : ux_lk yX5_lesson iX5_lesson 2 := ⟨ux_mem (n := 812) (by decide +kernel) (by decide +kernel), ux_mem (n := 137) (by decide +kernel) (by decide +kernel), ⟨by decide +kernel, by decide +kernel⟩, by decide +kernel, by decide +kernel, rfl⟩
abbrev iL_teacher : ux_I := (cL_teacher, 5, RL, (some .int), [(0, 10, 13, 20), (0, 10, 17, 13)])
theorem kL_teacher : ux_lk yL_teacher iL_teacher 4 := ⟨ux_mem (n := 818) (by decide +kernel) (by decide +kernel), ux_mem (n := 136) (by decide +kernel) (by decide +kernel), ⟨by decide +kernel, by decide +kernel⟩, by decide +kernel, by decide +kernel, rfl⟩
abbrev iX5_teacher : ux_I := (cX5_teacher, 3, RX5, (some .int), [])
theorem kX5_teacher : ux_lk yX5_teacher iX5_teacher 2 := ⟨ux_mem (n := 822) (by decide +kernel) (by decide +kernel), ux_mem (n := 137) (by decide +kernel) (by decide +kernel), ⟨by decide +kernel, by decide +kernel⟩, by decide +kernel, by decide +kernel, rfl⟩
abbrev iX4_shareOf : ux_I := (cX4_shareOf, 2, RX4, (some .int), [])
theorem kX4_shareOf : ux_lk yX4_shareOf iX4_shareOf 1 := ⟨ux_mem (n := 826) (by decide +kernel) (by decide +kernel), ux_mem (n := 138) (by decide +kernel) (by decide +kernel), ⟨by decide +kernel, by decide +kernel⟩, by decide +kernel, by decide +kernel, rfl⟩
abbrev iX4_shareFor : ux_I := (cX4_shareFor, 4, RX4, (some .int), [])
theorem kX4_shareFor : ux_lk yX4_shareFor iX4_shareFor 2 := ⟨ux_mem (n := 830) (by decide +kernel) (by decide +kernel), ux_mem (n := 138) (by decide +kernel) (by decide +kernel), ⟨by decide +kernel, by decide +kernel⟩, by decide +kernel, by decide +kernel, rfl⟩
abbrev iX4_ownLessons : ux_I := (cX4_ownLessons, 4, RX4, (some .int), [])
theorem kX4_ownLessons : ux_lk yX4_ownLessons iX4_ownLessons 1 := ⟨ux_mem (n := 834) (by decide +kernel) (by decide +kernel), ux_mem (n := 138) (by decide +kernel) (by decide +kernel), ⟨by decide +kernel, by decide +kernel⟩, by decide +kernel, by decide +kernel, rfl⟩
abbrev iX4_coversOf : ux_I := (cX4_coversOf, 4, RX4, (some .int), [])
theorem kX4_coversOf : ux_lk yX4_coversOf iX4_coversOf 1 := ⟨ux_mem (n := 838) (by decide +kernel) (by decide +kernel), ux_mem (n := 138) (by decide +kernel) (by decide +kernel), ⟨by decide +kernel, by decide +kernel⟩, by decide +kernel, by decide +kernel, rfl⟩
abbrev iX4_coversOn : ux_I := (cX4_coversOn, 5, RX4, (some .int), [])
theorem kX4_coversOn : ux_lk yX4_coversOn iX4_coversOn 2 := ⟨ux_mem (n := 842) (by decide +kernel) (by decide +kernel), ux_mem (n := 138) (by decide +kernel) (by decide +kernel), ⟨by decide +kernel, by decide +kernel⟩, by decide +kernel, by decide +kernel, rfl⟩
abbrev iX4_dayOf : ux_I := (cX4_dayOf, 2, RX4, (some .int), [])
theorem kX4_dayOf : ux_lk yX4_dayOf iX4_dayOf 1 := ⟨ux_mem (n := 846) (by decide +kernel) (by decide +kernel), ux_mem (n := 138) (by decide +kernel) (by decide +kernel), ⟨by decide +kernel, by decide +kernel⟩, by decide +kernel, by decide +kernel, rfl⟩
abbrev iX4_untaughtLessons : ux_I := (cX4_untaughtLessons, 4, RX4, (some .int), [])
theorem kX4_untaughtLessons : ux_lk yX4_untaughtLessons iX4_untaughtLessons 1 := ⟨ux_mem (n := 850) (by decide +kernel) (by decide +kernel), ux_mem (n := 138) (by decide +kernel) (by decide +kernel), ⟨by decide +kernel, by decide +kernel⟩, by decide +kernel, by decide +kernel, rfl⟩
abbrev iL_lessonOf : ux_I := (cL_lessonOf, 5, RL, (some .int), [(0, 10, 13, 20), (0, 10, 17, 53)])
theorem kL_lessonOf : ux_lk yL_lessonOf iL_lessonOf 4 := ⟨ux_mem (n := 853) (by decide +kernel) (by decide +kernel), ux_mem (n := 136) (by decide +kernel) (by decide +kernel), ⟨by decide +kernel, by decide +kernel⟩, by decide +kernel, by decide +kernel, rfl⟩
abbrev iX5_lessonOf : ux_I := (cX5_lessonOf, 4, RX5, (some .int), [])
theorem kX5_lessonOf : ux_lk yX5_lessonOf iX5_lessonOf 2 := ⟨ux_mem (n := 858) (by decide +kernel) (by decide +kernel), ux_mem (n := 137) (by decide +kernel) (by decide +kernel), ⟨by decide +kernel, by decide +kernel⟩, by decide +kernel, by decide +kernel, rfl⟩
abbrev iL_setAbsent : ux_I := (cL_setAbsent, 6, RL, (some .int), [(0, 12, 15, 20), (0, 12, 19, 15)])
theorem kL_setAbsent : ux_lk yL_setAbsent iL_setAbsent 5 := ⟨ux_mem (n := 878) (by decide +kernel) (by decide +kernel), ux_mem (n := 136) (by decide +kernel) (by decide +kernel), ⟨by decide +kernel, by decide +kernel⟩, by decide +kernel, by decide +kernel, rfl⟩
abbrev iX5_setAbsent : ux_I := (cX5_setAbsent, 4, RX5, (some .int), [])
theorem kX5_setAbsent : ux_lk yX5_setAbsent iX5_setAbsent 3 := ⟨ux_mem (n := 882) (by decide +kernel) (by decide +kernel), ux_mem (n := 137) (by decide +kernel) (by decide +kernel), ⟨by decide +kernel, by decide +kernel⟩, by decide +kernel, by decide +kernel, rfl⟩
abbrev iX4_isAbsentIn : ux_I := (cX4_isAbsentIn, 3, RX4, (some .boolean), [])
theorem kX4_isAbsentIn : ux_lk yX4_isAbsentIn iX4_isAbsentIn 2 := ⟨ux_mem (n := 886) (by decide +kernel) (by decide +kernel), ux_mem (n := 138) (by decide +kernel) (by decide +kernel), ⟨by decide +kernel, by decide +kernel⟩, by decide +kernel, by decide +kernel, rfl⟩
abbrev iX4_turnAbsence : ux_I := (cX4_turnAbsence, 6, RX4, (some .int), [])
theorem kX4_turnAbsence : ux_lk yX4_turnAbsence iX4_turnAbsence 2 := ⟨ux_mem (n := 891) (by decide +kernel) (by decide +kernel), ux_mem (n := 138) (by decide +kernel) (by decide +kernel), ⟨by decide +kernel, by decide +kernel⟩, by decide +kernel, by decide +kernel, rfl⟩
abbrev iL_absent : ux_I := (cL_absent, 5, RL, (some .int), [(0, 10, 13, 20)])
theorem kL_absent : ux_lk yL_absent iL_absent 4 := ⟨ux_mem (n := 894) (by decide +kernel) (by decide +kernel), ux_mem (n := 136) (by decide +kernel) (by decide +kernel), ⟨by decide +kernel, by decide +kernel⟩, by decide +kernel, by decide +kernel, rfl⟩
abbrev iX5_absent : ux_I := (cX5_absent, 3, RX5, (some .int), [])
theorem kX5_absent : ux_lk yX5_absent iX5_absent 2 := ⟨ux_mem (n := 898) (by decide +kernel) (by decide +kernel), ux_mem (n := 137) (by decide +kernel) (by decide +kernel), ⟨by decide +kernel, by decide +kernel⟩, by decide +kernel, by decide +kernel, rfl⟩
abbrev iX4_absentPeriods : ux_I := (cX4_absentPeriods, 3, RX4, (some .int), [])
theorem kX4_absentPeriods : ux_lk yX4_absentPeriods iX4_absentPeriods 2 := ⟨ux_mem (n := 902) (by decide +kernel) (by decide +kernel), ux_mem (n := 138) (by decide +kernel) (by decide +kernel), ⟨by decide +kernel, by decide +kernel⟩, by decide +kernel, by decide +kernel, rfl⟩
abbrev iL_free : ux_I := (cL_free, 5, RL, (some .int), [(0, 10, 13, 20)])
theorem kL_free : ux_lk yL_free iL_free 4 := ⟨ux_mem (n := 905) (by decide +kernel) (by decide +kernel), ux_mem (n := 136) (by decide +kernel) (by decide +kernel), ⟨by decide +kernel, by decide +kernel⟩, by decide +kernel, by decide +kernel, rfl⟩
abbrev iX5_free : ux_I := (cX5_free, 3, RX5, (some .int), [])
theorem kX5_free : ux_lk yX5_free iX5_free 2 := ⟨ux_mem (n := 909) (by decide +kernel) (by decide +kernel), ux_mem (n := 137) (by decide +kernel) (by decide +kernel), ⟨by decide +kernel, by decide +kernel⟩, by decide +kernel, by decide +kernel, rfl⟩
abbrev iX4_freePeriods : ux_I := (cX4_freePeriods, 5, RX4, (some .int), [])
theorem kX4_freePeriods : ux_lk yX4_freePeriods iX4_freePeriods 2 := ⟨ux_mem (n := 913) (by decide +kernel) (by decide +kernel), ux_mem (n := 138) (by decide +kernel) (by decide +kernel), ⟨by decide +kernel, by decide +kernel⟩, by decide +kernel, by decide +kernel, rfl⟩
abbrev iX4_isFreeIn : ux_I := (cX4_isFreeIn, 3, RX4, (some .boolean), [])
theorem kX4_isFreeIn : ux_lk yX4_isFreeIn iX4_isFreeIn 2 := ⟨ux_mem (n := 917) (by decide +kernel) (by decide +kernel), ux_mem (n := 138) (by decide +kernel) (by decide +kernel), ⟨by decide +kernel, by decide +kernel⟩, by decide +kernel, by decide +kernel, rfl⟩
abbrev iL_freeRooms : ux_I := (cL_freeRooms, 4, RL, (some .int), [(0, 9, 12, 20)])
theorem kL_freeRooms : ux_lk yL_freeRooms iL_freeRooms 3 := ⟨ux_mem (n := 921) (by decide +kernel) (by decide +kernel), ux_mem (n := 136) (by decide +kernel) (by decide +kernel), ⟨by decide +kernel, by decide +kernel⟩, by decide +kernel, by decide +kernel, rfl⟩
abbrev iX5_freeRooms : ux_I := (cX5_freeRooms, 2, RX5, (some .int), [])
theorem kX5_freeRooms : ux_lk yX5_freeRooms iX5_freeRooms 1 := ⟨ux_mem (n := 925) (by decide +kernel) (by decide +kernel), ux_mem (n := 137) (by decide +kernel) (by decide +kernel), ⟨by decide +kernel, by decide +kernel⟩, by decide +kernel, by decide +kernel, rfl⟩
abbrev iX4_roomsFreeIn : ux_I := (cX4_roomsFreeIn, 4, RX4, (some .int), [])
theorem kX4_roomsFreeIn : ux_lk yX4_roomsFreeIn iX4_roomsFreeIn 1 := ⟨ux_mem (n := 929) (by decide +kernel) (by decide +kernel), ux_mem (n := 138) (by decide +kernel) (by decide +kernel), ⟨by decide +kernel, by decide +kernel⟩, by decide +kernel, by decide +kernel, rfl⟩
abbrev iL_openOn : ux_I := (cL_openOn, 4, RL, (some .int), [(0, 9, 12, 20)])
theorem kL_openOn : ux_lk yL_openOn iL_openOn 3 := ⟨ux_mem (n := 932) (by decide +kernel) (by decide +kernel), ux_mem (n := 136) (by decide +kernel) (by decide +kernel), ⟨by decide +kernel, by decide +kernel⟩, by decide +kernel, by decide +kernel, rfl⟩
abbrev iX5_openOn : ux_I := (cX5_openOn, 2, RX5, (some .int), [])
theorem kX5_openOn : ux_lk yX5_openOn iX5_openOn 1 := ⟨ux_mem (n := 936) (by decide +kernel) (by decide +kernel), ux_mem (n := 137) (by decide +kernel) (by decide +kernel), ⟨by decide +kernel, by decide +kernel⟩, by decide +kernel, by decide +kernel, rfl⟩
abbrev iX4_openCount : ux_I := (cX4_openCount, 4, RX4, (some .int), [])
theorem kX4_openCount : ux_lk yX4_openCount iX4_openCount 1 := ⟨ux_mem (n := 940) (by decide +kernel) (by decide +kernel), ux_mem (n := 138) (by decide +kernel) (by decide +kernel), ⟨by decide +kernel, by decide +kernel⟩, by decide +kernel, by decide +kernel, rfl⟩
abbrev iL_open : ux_I := (cL_open, 5, RL, (some .int), [(0, 10, 13, 20), (0, 10, 17, 53)])
theorem kL_open : ux_lk yL_open iL_open 4 := ⟨ux_mem (n := 943) (by decide +kernel) (by decide +kernel), ux_mem (n := 136) (by decide +kernel) (by decide +kernel), ⟨by decide +kernel, by decide +kernel⟩, by decide +kernel, by decide +kernel, rfl⟩
abbrev iX5_open : ux_I := (cX5_open, 4, RX5, (some .int), [])
theorem kX5_open : ux_lk yX5_open iX5_open 2 := ⟨ux_mem (n := 947) (by decide +kernel) (by decide +kernel), ux_mem (n := 137) (by decide +kernel) (by decide +kernel), ⟨by decide +kernel, by decide +kernel⟩, by decide +kernel, by decide +kernel, rfl⟩
abbrev iX4_openAt : ux_I := (cX4_openAt, 6, RX4, (some .int), [])
theorem kX4_openAt : ux_lk yX4_openAt iX4_openAt 2 := ⟨ux_mem (n := 951) (by decide +kernel) (by decide +kernel), ux_mem (n := 138) (by decide +kernel) (by decide +kernel), ⟨by decide +kernel, by decide +kernel⟩, by decide +kernel, by decide +kernel, rfl⟩
abbrev iX4_isOpenIn : ux_I := (cX4_isOpenIn, 3, RX4, (some .boolean), [])
theorem kX4_isOpenIn : ux_lk yX4_isOpenIn iX4_isOpenIn 2 := ⟨ux_mem (n := 955) (by decide +kernel) (by decide +kernel), ux_mem (n := 138) (by decide +kernel) (by decide +kernel), ⟨by decide +kernel, by decide +kernel⟩, by decide +kernel, by decide +kernel, rfl⟩
abbrev iL_why : ux_I := (cL_why, 5, RL, (some .int), [(0, 10, 13, 20), (0, 10, 17, 15)])
theorem kL_why : ux_lk yL_why iL_why 4 := ⟨ux_mem (n := 959) (by decide +kernel) (by decide +kernel), ux_mem (n := 136) (by decide +kernel) (by decide +kernel), ⟨by decide +kernel, by decide +kernel⟩, by decide +kernel, by decide +kernel, rfl⟩
abbrev iX5_why : ux_I := (cX5_why, 3, RX5, (some .int), [])
theorem kX5_why : ux_lk yX5_why iX5_why 2 := ⟨ux_mem (n := 963) (by decide +kernel) (by decide +kernel), ux_mem (n := 137) (by decide +kernel) (by decide +kernel), ⟨by decide +kernel, by decide +kernel⟩, by decide +kernel, by decide +kernel, rfl⟩
abbrev iX5_needState : ux_I := (cX5_needState, 3, RX5, none, [])
theorem kX5_needState : ux_lk yX5_needState iX5_needState 2 := ⟨ux_mem (n := 967) (by decide +kernel) (by decide +kernel), ux_mem (n := 137) (by decide +kernel) (by decide +kernel), ⟨by decide +kernel, by decide +kernel⟩, by decide +kernel, by decide +kernel, rfl⟩
abbrev iX4_reasonAgainst : ux_I := (cX4_reasonAgainst, 4, RX4, (some .int), [])
theorem kX4_reasonAgainst : ux_lk yX4_reasonAgainst iX4_reasonAgainst 2 := ⟨ux_mem (n := 972) (by decide +kernel) (by decide +kernel), ux_mem (n := 138) (by decide +kernel) (by decide +kernel), ⟨by decide +kernel, by decide +kernel⟩, by decide +kernel, by decide +kernel, rfl⟩
abbrev iL_points : ux_I := (cL_points, 5, RL, (some .int), [(0, 10, 13, 20)])
theorem kL_points : ux_lk yL_points iL_points 4 := ⟨ux_mem (n := 975) (by decide +kernel) (by decide +kernel), ux_mem (n := 136) (by decide +kernel) (by decide +kernel), ⟨by decide +kernel, by decide +kernel⟩, by decide +kernel, by decide +kernel, rfl⟩
abbrev iX5_points : ux_I := (cX5_points, 3, RX5, (some .int), [])
theorem kX5_points : ux_lk yX5_points iX5_points 2 := ⟨ux_mem (n := 979) (by decide +kernel) (by decide +kernel), ux_mem (n := 137) (by decide +kernel) (by decide +kernel), ⟨by decide +kernel, by decide +kernel⟩, by decide +kernel, by decide +kernel, rfl⟩
abbrev iL_suggestion : ux_I := (cL_suggestion, 4, RL, (some .int), [(0, 9, 12, 20), (0, 9, 15, 15), (0, 9, 18, 53)])
theorem kL_suggestion : ux_lk yL_suggestion iL_suggestion 3 := ⟨ux_mem (n := 983) (by decide +kernel) (by decide +kernel), ux_mem (n := 136) (by decide +kernel) (by decide +kernel), ⟨by decide +kernel, by decide +kernel⟩, by decide +kernel, by decide +kernel, rfl⟩
abbrev iX5_suggestion : ux_I := (cX5_suggestion, 3, RX5, (some .int), [])
theorem kX5_suggestion : ux_lk yX5_suggestion iX5_suggestion 1 := ⟨ux_mem (n := 987) (by decide +kernel) (by decide +kernel), ux_mem (n := 137) (by decide +kernel) (by decide +kernel), ⟨by decide +kernel, by decide +kernel⟩, by decide +kernel, by decide +kernel, rfl⟩
abbrev iX4_bestFor : ux_I := (cX4_bestFor, 4, RX4, (some .int), [])
theorem kX4_bestFor : ux_lk yX4_bestFor iX4_bestFor 1 := ⟨ux_mem (n := 991) (by decide +kernel) (by decide +kernel), ux_mem (n := 138) (by decide +kernel) (by decide +kernel), ⟨by decide +kernel, by decide +kernel⟩, by decide +kernel, by decide +kernel, rfl⟩
abbrev iX4_isBetterFor : ux_I := (cX4_isBetterFor, 5, RX4, (some .boolean), [])
theorem kX4_isBetterFor : ux_lk yX4_isBetterFor iX4_isBetterFor 3 := ⟨ux_mem (n := 996) (by decide +kernel) (by decide +kernel), ux_mem (n := 138) (by decide +kernel) (by decide +kernel), ⟨by decide +kernel, by decide +kernel⟩, by decide +kernel, by decide +kernel, rfl⟩
abbrev iX4_shareWith : ux_I := (cX4_shareWith, 3, RX4, (some .int), [])
theorem kX4_shareWith : ux_lk yX4_shareWith iX4_shareWith 2 := ⟨ux_mem (n := 1000) (by decide +kernel) (by decide +kernel), ux_mem (n := 138) (by decide +kernel) (by decide +kernel), ⟨by decide +kernel, by decide +kernel⟩, by decide +kernel, by decide +kernel, rfl⟩
abbrev iL_cover : ux_I := (cL_cover, 5, RL, (some .int), [(0, 10, 13, 20), (0, 10, 17, 15), (0, 10, 21, 32)])
theorem kL_cover : ux_lk yL_cover iL_cover 4 := ⟨ux_mem (n := 1004) (by decide +kernel) (by decide +kernel), ux_mem (n := 136) (by decide +kernel) (by decide +kernel), ⟨by decide +kernel, by decide +kernel⟩, by decide +kernel, by decide +kernel, rfl⟩
abbrev iX5_cover : ux_I := (cX5_cover, 4, RX5, (some .int), [])
theorem kX5_cover : ux_lk yX5_cover iX5_cover 2 := ⟨ux_mem (n := 1008) (by decide +kernel) (by decide +kernel), ux_mem (n := 137) (by decide +kernel) (by decide +kernel), ⟨by decide +kernel, by decide +kernel⟩, by decide +kernel, by decide +kernel, rfl⟩
abbrev iX4_beginCover : ux_I := (cX4_beginCover, 3, RX4, none, [])
theorem kX4_beginCover : ux_lk yX4_beginCover iX4_beginCover 2 := ⟨ux_mem (n := 1013) (by decide +kernel) (by decide +kernel), ux_mem (n := 138) (by decide +kernel) (by decide +kernel), ⟨by decide +kernel, by decide +kernel⟩, by decide +kernel, by decide +kernel, rfl⟩
abbrev iL_uncover : ux_I := (cL_uncover, 4, RL, (some .int), [(0, 9, 12, 20), (0, 9, 15, 15)])
theorem kL_uncover : ux_lk yL_uncover iL_uncover 3 := ⟨ux_mem (n := 1016) (by decide +kernel) (by decide +kernel), ux_mem (n := 136) (by decide +kernel) (by decide +kernel), ⟨by decide +kernel, by decide +kernel⟩, by decide +kernel, by decide +kernel, rfl⟩
abbrev iX5_uncover : ux_I := (cX5_uncover, 3, RX5, (some .int), [])
theorem kX5_uncover : ux_lk yX5_uncover iX5_uncover 1 := ⟨ux_mem (n := 1020) (by decide +kernel) (by decide +kernel), ux_mem (n := 137) (by decide +kernel) (by decide +kernel), ⟨by decide +kernel, by decide +kernel⟩, by decide +kernel, by decide +kernel, rfl⟩
abbrev iL_split : ux_I := (cL_split, 6, RL, (some .int), [(0, 12, 15, 20), (0, 12, 19, 15), (0, 12, 23, 13), (0, 12, 27, 32)])
theorem kL_split : ux_lk yL_split iL_split 5 := ⟨ux_mem (n := 1025) (by decide +kernel) (by decide +kernel), ux_mem (n := 136) (by decide +kernel) (by decide +kernel), ⟨by decide +kernel, by decide +kernel⟩, by decide +kernel, by decide +kernel, rfl⟩
abbrev iX5_split : ux_I := (cX5_split, 5, RX5, (some .int), [])
theorem kX5_split : ux_lk yX5_split iX5_split 3 := ⟨ux_mem (n := 1029) (by decide +kernel) (by decide +kernel), ux_mem (n := 137) (by decide +kernel) (by decide +kernel), ⟨by decide +kernel, by decide +kernel⟩, by decide +kernel, by decide +kernel, rfl⟩
abbrev iX4_areTogether : ux_I := (cX4_areTogether, 3, RX4, (some .boolean), [])
theorem kX4_areTogether : ux_lk yX4_areTogether iX4_areTogether 2 := ⟨ux_mem (n := 1033) (by decide +kernel) (by decide +kernel), ux_mem (n := 138) (by decide +kernel) (by decide +kernel), ⟨by decide +kernel, by decide +kernel⟩, by decide +kernel, by decide +kernel, rfl⟩
abbrev iX4_canHost : ux_I := (cX4_canHost, 3, RX4, (some .boolean), [])
theorem kX4_canHost : ux_lk yX4_canHost iX4_canHost 2 := ⟨ux_mem (n := 1039) (by decide +kernel) (by decide +kernel), ux_mem (n := 138) (by decide +kernel) (by decide +kernel), ⟨by decide +kernel, by decide +kernel⟩, by decide +kernel, by decide +kernel, rfl⟩
abbrev iX4_beginSplit : ux_I := (cX4_beginSplit, 4, RX4, none, [])
theorem kX4_beginSplit : ux_lk yX4_beginSplit iX4_beginSplit 3 := ⟨ux_mem (n := 1045) (by decide +kernel) (by decide +kernel), ux_mem (n := 138) (by decide +kernel) (by decide +kernel), ⟨by decide +kernel, by decide +kernel⟩, by decide +kernel, by decide +kernel, rfl⟩
abbrev iL_unsplit : ux_I := (cL_unsplit, 4, RL, (some .int), [(0, 9, 12, 20), (0, 9, 15, 15)])
theorem kL_unsplit : ux_lk yL_unsplit iL_unsplit 3 := ⟨ux_mem (n := 1048) (by decide +kernel) (by decide +kernel), ux_mem (n := 136) (by decide +kernel) (by decide +kernel), ⟨by decide +kernel, by decide +kernel⟩, by decide +kernel, by decide +kernel, rfl⟩
abbrev iX5_unsplit : ux_I := (cX5_unsplit, 2, RX5, (some .int), [])
theorem kX5_unsplit : ux_lk yX5_unsplit iX5_unsplit 1 := ⟨ux_mem (n := 1052) (by decide +kernel) (by decide +kernel), ux_mem (n := 137) (by decide +kernel) (by decide +kernel), ⟨by decide +kernel, by decide +kernel⟩, by decide +kernel, by decide +kernel, rfl⟩
abbrev iL_host : ux_I := (cL_host, 5, RL, (some .int), [(0, 10, 13, 20), (0, 10, 17, 15)])
theorem kL_host : ux_lk yL_host iL_host 4 := ⟨ux_mem (n := 1057) (by decide +kernel) (by decide +kernel), ux_mem (n := 136) (by decide +kernel) (by decide +kernel), ⟨by decide +kernel, by decide +kernel⟩, by decide +kernel, by decide +kernel, rfl⟩
abbrev iX5_host : ux_I := (cX5_host, 3, RX5, (some .int), [])
theorem kX5_host : ux_lk yX5_host iX5_host 2 := ⟨ux_mem (n := 1061) (by decide +kernel) (by decide +kernel), ux_mem (n := 137) (by decide +kernel) (by decide +kernel), ⟨by decide +kernel, by decide +kernel⟩, by decide +kernel, by decide +kernel, rfl⟩
abbrev iL_refusal : ux_I := (cL_refusal, 3, RL, (some .int), [(0, 8, 11, 53)])
theorem kL_refusal : ux_lk yL_refusal iL_refusal 2 := ⟨ux_mem (n := 1064) (by decide +kernel) (by decide +kernel), ux_mem (n := 136) (by decide +kernel) (by decide +kernel), ⟨by decide +kernel, by decide +kernel⟩, by decide +kernel, by decide +kernel, rfl⟩
abbrev iX5_refusal : ux_I := (cX5_refusal, 1, RX5, (some .int), [])
theorem kX5_refusal : ux_lk yX5_refusal iX5_refusal 0 := ⟨ux_mem (n := 1068) (by decide +kernel) (by decide +kernel), ux_mem (n := 137) (by decide +kernel) (by decide +kernel), ⟨by decide +kernel, by decide +kernel⟩, by decide +kernel, by decide +kernel, rfl⟩
abbrev iL_coverDay : ux_I := (cL_coverDay, 4, RL, (some .int), [(0, 9, 12, 20)])
theorem kL_coverDay : ux_lk yL_coverDay iL_coverDay 3 := ⟨ux_mem (n := 1072) (by decide +kernel) (by decide +kernel), ux_mem (n := 136) (by decide +kernel) (by decide +kernel), ⟨by decide +kernel, by decide +kernel⟩, by decide +kernel, by decide +kernel, rfl⟩
abbrev iX5_coverDay : ux_I := (cX5_coverDay, 2, RX5, (some .int), [])
theorem kX5_coverDay : ux_lk yX5_coverDay iX5_coverDay 1 := ⟨ux_mem (n := 1076) (by decide +kernel) (by decide +kernel), ux_mem (n := 137) (by decide +kernel) (by decide +kernel), ⟨by decide +kernel, by decide +kernel⟩, by decide +kernel, by decide +kernel, rfl⟩
abbrev iX4_coverOpenLessons : ux_I := (cX4_coverOpenLessons, 6, RX4, (some .int), [])
theorem kX4_coverOpenLessons : ux_lk yX4_coverOpenLessons iX4_coverOpenLessons 1 := ⟨ux_mem (n := 1080) (by decide +kernel) (by decide +kernel), ux_mem (n := 138) (by decide +kernel) (by decide +kernel), ⟨by decide +kernel, by decide +kernel⟩, by decide +kernel, by decide +kernel, rfl⟩
abbrev iL_spread : ux_I := (cL_spread, 3, RL, (some .int), [(0, 8, 11, 53)])
theorem kL_spread : ux_lk yL_spread iL_spread 2 := ⟨ux_mem (n := 1085) (by decide +kernel) (by decide +kernel), ux_mem (n := 136) (by decide +kernel) (by decide +kernel), ⟨by decide +kernel, by decide +kernel⟩, by decide +kernel, by decide +kernel, rfl⟩
abbrev iX5_spread : ux_I := (cX5_spread, 1, RX5, (some .int), [])
theorem kX5_spread : ux_lk yX5_spread iX5_spread 0 := ⟨ux_mem (n := 1089) (by decide +kernel) (by decide +kernel), ux_mem (n := 137) (by decide +kernel) (by decide +kernel), ⟨by decide +kernel, by decide +kernel⟩, by decide +kernel, by decide +kernel, rfl⟩
abbrev iX5_needTeachers : ux_I := (cX5_needTeachers, 1, RX5, none, [])
theorem kX5_needTeachers : ux_lk yX5_needTeachers iX5_needTeachers 0 := ⟨ux_mem (n := 1093) (by decide +kernel) (by decide +kernel), ux_mem (n := 137) (by decide +kernel) (by decide +kernel), ⟨by decide +kernel, by decide +kernel⟩, by decide +kernel, by decide +kernel, rfl⟩
abbrev iX4_extremeTeacher : ux_I := (cX4_extremeTeacher, 5, RX4, (some .int), [])
theorem kX4_extremeTeacher : ux_lk yX4_extremeTeacher iX4_extremeTeacher 1 := ⟨ux_mem (n := 1098) (by decide +kernel) (by decide +kernel), ux_mem (n := 138) (by decide +kernel) (by decide +kernel), ⟨by decide +kernel, by decide +kernel⟩, by decide +kernel, by decide +kernel, rfl⟩
abbrev iL_extreme : ux_I := (cL_extreme, 4, RL, (some .int), [(0, 9, 12, 53)])
theorem kL_extreme : ux_lk yL_extreme iL_extreme 3 := ⟨ux_mem (n := 1102) (by decide +kernel) (by decide +kernel), ux_mem (n := 136) (by decide +kernel) (by decide +kernel), ⟨by decide +kernel, by decide +kernel⟩, by decide +kernel, by decide +kernel, rfl⟩
abbrev iX5_extreme : ux_I := (cX5_extreme, 2, RX5, (some .int), [])
theorem kX5_extreme : ux_lk yX5_extreme iX5_extreme 1 := ⟨ux_mem (n := 1106) (by decide +kernel) (by decide +kernel), ux_mem (n := 137) (by decide +kernel) (by decide +kernel), ⟨by decide +kernel, by decide +kernel⟩, by decide +kernel, by decide +kernel, rfl⟩
abbrev iL_plannedSpread : ux_I := (cL_plannedSpread, 4, RL, (some .int), [(0, 9, 12, 20), (0, 9, 15, 15), (0, 9, 18, 53)])
theorem kL_plannedSpread : ux_lk yL_plannedSpread iL_plannedSpread 3 := ⟨ux_mem (n := 1109) (by decide +kernel) (by decide +kernel), ux_mem (n := 136) (by decide +kernel) (by decide +kernel), ⟨by decide +kernel, by decide +kernel⟩, by decide +kernel, by decide +kernel, rfl⟩
abbrev iX5_plannedSpread : ux_I := (cX5_plannedSpread, 2, RX5, (some .int), [])
theorem kX5_plannedSpread : ux_lk yX5_plannedSpread iX5_plannedSpread 1 := ⟨ux_mem (n := 1113) (by decide +kernel) (by decide +kernel), ux_mem (n := 137) (by decide +kernel) (by decide +kernel), ⟨by decide +kernel, by decide +kernel⟩, by decide +kernel, by decide +kernel, rfl⟩
abbrev iX5_planDay : ux_I := (cX5_planDay, 2, RX5, none, [])
theorem kX5_planDay : ux_lk yX5_planDay iX5_planDay 1 := ⟨ux_mem (n := 1117) (by decide +kernel) (by decide +kernel), ux_mem (n := 137) (by decide +kernel) (by decide +kernel), ⟨by decide +kernel, by decide +kernel⟩, by decide +kernel, by decide +kernel, rfl⟩
abbrev iX3_findPlans : ux_I := (cX3_findPlans, 4, RX3, none, [])
theorem kX3_findPlans : ux_lk yX3_findPlans iX3_findPlans 2 := ⟨ux_mem (n := 1122) (by decide +kernel) (by decide +kernel), ux_mem (n := 140) (by decide +kernel) (by decide +kernel), ⟨by decide +kernel, by decide +kernel⟩, by decide +kernel, by decide +kernel, rfl⟩
abbrev iX3_takeLesson : ux_I := (cX3_takeLesson, 7, RX3, none, [])
theorem kX3_takeLesson : ux_lk yX3_takeLesson iX3_takeLesson 3 := ⟨ux_mem (n := 1133) (by decide +kernel) (by decide +kernel), ux_mem (n := 140) (by decide +kernel) (by decide +kernel), ⟨by decide +kernel, by decide +kernel⟩, by decide +kernel, by decide +kernel, rfl⟩
abbrev iX3_extend : ux_I := (cX3_extend, 3, RX3, none, [])
theorem kX3_extend : ux_lk yX3_extend iX3_extend 2 := ⟨ux_mem (n := 1139) (by decide +kernel) (by decide +kernel), ux_mem (n := 140) (by decide +kernel) (by decide +kernel), ⟨by decide +kernel, by decide +kernel⟩, by decide +kernel, by decide +kernel, rfl⟩
abbrev iX3_judge : ux_I := (cX3_judge, 2, RX3, none, [])
theorem kX3_judge : ux_lk yX3_judge iX3_judge 0 := ⟨ux_mem (n := 1143) (by decide +kernel) (by decide +kernel), ux_mem (n := 140) (by decide +kernel) (by decide +kernel), ⟨by decide +kernel, by decide +kernel⟩, by decide +kernel, by decide +kernel, rfl⟩
abbrev iX3_spreadNow : ux_I := (cX3_spreadNow, 4, RX3, (some .int), [])
theorem kX3_spreadNow : ux_lk yX3_spreadNow iX3_spreadNow 0 := ⟨ux_mem (n := 1147) (by decide +kernel) (by decide +kernel), ux_mem (n := 140) (by decide +kernel) (by decide +kernel), ⟨by decide +kernel, by decide +kernel⟩, by decide +kernel, by decide +kernel, rfl⟩
abbrev iX3_canTake : ux_I := (cX3_canTake, 4, RX3, (some .boolean), [])
theorem kX3_canTake : ux_lk yX3_canTake iX3_canTake 2 := ⟨ux_mem (n := 1153) (by decide +kernel) (by decide +kernel), ux_mem (n := 140) (by decide +kernel) (by decide +kernel), ⟨by decide +kernel, by decide +kernel⟩, by decide +kernel, by decide +kernel, rfl⟩
abbrev iX3_give : ux_I := (cX3_give, 4, RX3, none, [])
theorem kX3_give : ux_lk yX3_give iX3_give 3 := ⟨ux_mem (n := 1157) (by decide +kernel) (by decide +kernel), ux_mem (n := 140) (by decide +kernel) (by decide +kernel), ⟨by decide +kernel, by decide +kernel⟩, by decide +kernel, by decide +kernel, rfl⟩
abbrev iX5_needPlan : ux_I := (cX5_needPlan, 1, RX5, none, [])
theorem kX5_needPlan : ux_lk yX5_needPlan iX5_needPlan 0 := ⟨ux_mem (n := 1161) (by decide +kernel) (by decide +kernel), ux_mem (n := 137) (by decide +kernel) (by decide +kernel), ⟨by decide +kernel, by decide +kernel⟩, by decide +kernel, by decide +kernel, rfl⟩
abbrev iL_planned : ux_I := (cL_planned, 5, RL, (some .int), [(0, 10, 13, 20), (0, 10, 17, 15), (0, 10, 21, 53)])
theorem kL_planned : ux_lk yL_planned iL_planned 4 := ⟨ux_mem (n := 1165) (by decide +kernel) (by decide +kernel), ux_mem (n := 136) (by decide +kernel) (by decide +kernel), ⟨by decide +kernel, by decide +kernel⟩, by decide +kernel, by decide +kernel, rfl⟩
abbrev iX5_planned : ux_I := (cX5_planned, 3, RX5, (some .int), [])
theorem kX5_planned : ux_lk yX5_planned iX5_planned 2 := ⟨ux_mem (n := 1169) (by decide +kernel) (by decide +kernel), ux_mem (n := 137) (by decide +kernel) (by decide +kernel), ⟨by decide +kernel, by decide +kernel⟩, by decide +kernel, by decide +kernel, rfl⟩
abbrev iL_carryOut : ux_I := (cL_carryOut, 4, RL, (some .int), [(0, 9, 12, 20), (0, 9, 15, 15), (0, 9, 18, 53)])
theorem kL_carryOut : ux_lk yL_carryOut iL_carryOut 3 := ⟨ux_mem (n := 1172) (by decide +kernel) (by decide +kernel), ux_mem (n := 136) (by decide +kernel) (by decide +kernel), ⟨by decide +kernel, by decide +kernel⟩, by decide +kernel, by decide +kernel, rfl⟩
abbrev iX5_carryOut : ux_I := (cX5_carryOut, 3, RX5, (some .int), [])
theorem kX5_carryOut : ux_lk yX5_carryOut iX5_carryOut 1 := ⟨ux_mem (n := 1176) (by decide +kernel) (by decide +kernel), ux_mem (n := 137) (by decide +kernel) (by decide +kernel), ⟨by decide +kernel, by decide +kernel⟩, by decide +kernel, by decide +kernel, rfl⟩
abbrev iL_plans : ux_I := (cL_plans, 4, RL, (some .int), [(0, 9, 12, 20), (0, 9, 15, 15)])
theorem kL_plans : ux_lk yL_plans iL_plans 3 := ⟨ux_mem (n := 1179) (by decide +kernel) (by decide +kernel), ux_mem (n := 136) (by decide +kernel) (by decide +kernel), ⟨by decide +kernel, by decide +kernel⟩, by decide +kernel, by decide +kernel, rfl⟩
abbrev iX5_plans : ux_I := (cX5_plans, 2, RX5, (some .int), [])
theorem kX5_plans : ux_lk yX5_plans iX5_plans 1 := ⟨ux_mem (n := 1183) (by decide +kernel) (by decide +kernel), ux_mem (n := 137) (by decide +kernel) (by decide +kernel), ⟨by decide +kernel, by decide +kernel⟩, by decide +kernel, by decide +kernel, rfl⟩
abbrev iL_averagePoints : ux_I := (cL_averagePoints, 4, RL, (some .int), [(0, 8, 11, 13), (0, 8, 14, 130)])
theorem kL_averagePoints : ux_lk yL_averagePoints iL_averagePoints 3 := ⟨ux_mem (n := 1186) (by decide +kernel) (by decide +kernel), ux_mem (n := 136) (by decide +kernel) (by decide +kernel), ⟨by decide +kernel, by decide +kernel⟩, by decide +kernel, by decide +kernel, rfl⟩
abbrev iX5_averagePoints : ux_I := (cX5_averagePoints, 3, RX5, (some .double), [])
theorem kX5_averagePoints : ux_lk yX5_averagePoints iX5_averagePoints 1 := ⟨ux_mem (n := 1204) (by decide +kernel) (by decide +kernel), ux_mem (n := 137) (by decide +kernel) (by decide +kernel), ⟨by decide +kernel, by decide +kernel⟩, by decide +kernel, by decide +kernel, rfl⟩
abbrev iJ6_bitCount_0f7a4 : ux_I := (cJ6_bitCount_0f7a4, 1, RJ6, (some .int), [])
theorem kJ6_bitCount_0f7a4 : ux_lk yJ6_bitCount_0f7a4 iJ6_bitCount_0f7a4 1 := ⟨ux_mem (n := 1208) (by decide +kernel) (by decide +kernel), ux_mem (n := 156) (by decide +kernel) (by decide +kernel), ⟨by decide +kernel, by decide +kernel⟩, by decide +kernel, by decide +kernel, rfl⟩
abbrev iX4_pointsOfAll : ux_I := (cX4_pointsOfAll, 4, RX4, (some .int), [])
theorem kX4_pointsOfAll : ux_lk yX4_pointsOfAll iX4_pointsOfAll 1 := ⟨ux_mem (n := 1218) (by decide +kernel) (by decide +kernel), ux_mem (n := 138) (by decide +kernel) (by decide +kernel), ⟨by decide +kernel, by decide +kernel⟩, by decide +kernel, by decide +kernel, rfl⟩
abbrev iL_lost : ux_I := (cL_lost, 4, RL, (some .int), [(0, 9, 12, 20)])
theorem kL_lost : ux_lk yL_lost iL_lost 3 := ⟨ux_mem (n := 1221) (by decide +kernel) (by decide +kernel), ux_mem (n := 136) (by decide +kernel) (by decide +kernel), ⟨by decide +kernel, by decide +kernel⟩, by decide +kernel, by decide +kernel, rfl⟩
abbrev iX5_lost : ux_I := (cX5_lost, 2, RX5, (some .int), [])
theorem kX5_lost : ux_lk yX5_lost iX5_lost 1 := ⟨ux_mem (n := 1225) (by decide +kernel) (by decide +kernel), ux_mem (n := 137) (by decide +kernel) (by decide +kernel), ⟨by decide +kernel, by decide +kernel⟩, by decide +kernel, by decide +kernel, rfl⟩
abbrev iX4_lostLessons : ux_I := (cX4_lostLessons, 5, RX4, (some .int), [])
theorem kX4_lostLessons : ux_lk yX4_lostLessons iX4_lostLessons 1 := ⟨ux_mem (n := 1229) (by decide +kernel) (by decide +kernel), ux_mem (n := 138) (by decide +kernel) (by decide +kernel), ⟨by decide +kernel, by decide +kernel⟩, by decide +kernel, by decide +kernel, rfl⟩
abbrev iL_append : ux_I := (cL_append, 4, RL, (some .int), [(0, 9, 12, 13), (0, 9, 15, 15)])
theorem kL_append : ux_lk yL_append iL_append 3 := ⟨ux_mem (n := 1232) (by decide +kernel) (by decide +kernel), ux_mem (n := 136) (by decide +kernel) (by decide +kernel), ⟨by decide +kernel, by decide +kernel⟩, by decide +kernel, by decide +kernel, rfl⟩
abbrev iX5_append : ux_I := (cX5_append, 2, RX5, (some .int), [])
theorem kX5_append : ux_lk yX5_append iX5_append 1 := ⟨ux_mem (n := 1236) (by decide +kernel) (by decide +kernel), ux_mem (n := 137) (by decide +kernel) (by decide +kernel), ⟨by decide +kernel, by decide +kernel⟩, by decide +kernel, by decide +kernel, rfl⟩
abbrev iX1_add : ux_I := (cX1_add, 2, RX1, none, [])
theorem kX1_add : ux_lk yX1_add iX1_add 1 := ⟨ux_mem (n := 1241) (by decide +kernel) (by decide +kernel), ux_mem (n := 141) (by decide +kernel) (by decide +kernel), ⟨by decide +kernel, by decide +kernel⟩, by decide +kernel, by decide +kernel, rfl⟩
abbrev iL_read : ux_I := (cL_read, 3, RL, (some .int), [(0, 8, 11, 13), (0, 8, 14, 15)])
theorem kL_read : ux_lk yL_read iL_read 2 := ⟨ux_mem (n := 1244) (by decide +kernel) (by decide +kernel), ux_mem (n := 136) (by decide +kernel) (by decide +kernel), ⟨by decide +kernel, by decide +kernel⟩, by decide +kernel, by decide +kernel, rfl⟩
abbrev iX5_read : ux_I := (cX5_read, 3, RX5, (some .int), [])
theorem kX5_read : ux_lk yX5_read iX5_read 0 := ⟨ux_mem (n := 1248) (by decide +kernel) (by decide +kernel), ux_mem (n := 137) (by decide +kernel) (by decide +kernel), ⟨by decide +kernel, by decide +kernel⟩, by decide +kernel, by decide +kernel, rfl⟩
abbrev iX1_firstError : ux_I := (cX1_firstError, 2, RX1, (some .int), [])
theorem kX1_firstError : ux_lk yX1_firstError iX1_firstError 0 := ⟨ux_mem (n := 1252) (by decide +kernel) (by decide +kernel), ux_mem (n := 141) (by decide +kernel) (by decide +kernel), ⟨by decide +kernel, by decide +kernel⟩, by decide +kernel, by decide +kernel, rfl⟩
abbrev iX1_takeEntry : ux_I := (cX1_takeEntry, 1, RX1, (some .boolean), [])
theorem kX1_takeEntry : ux_lk yX1_takeEntry iX1_takeEntry 0 := ⟨ux_mem (n := 1256) (by decide +kernel) (by decide +kernel), ux_mem (n := 141) (by decide +kernel) (by decide +kernel), ⟨by decide +kernel, by decide +kernel⟩, by decide +kernel, by decide +kernel, rfl⟩
abbrev iX5_signAt : ux_I := (cX5_signAt, 2, RX5, (some .char), [])
theorem kX5_signAt : ux_lk yX5_signAt iX5_signAt 2 := ⟨ux_mem (n := 1259) (by decide +kernel) (by decide +kernel), ux_mem (n := 137) (by decide +kernel) (by decide +kernel), ⟨by decide +kernel, by decide +kernel⟩, by decide +kernel, by decide +kernel, rfl⟩
abbrev iX1_takeSign : ux_I := (cX1_takeSign, 2, RX1, (some .boolean), [])
theorem kX1_takeSign : ux_lk yX1_takeSign iX1_takeSign 1 := ⟨ux_mem (n := 1263) (by decide +kernel) (by decide +kernel), ux_mem (n := 141) (by decide +kernel) (by decide +kernel), ⟨by decide +kernel, by decide +kernel⟩, by decide +kernel, by decide +kernel, rfl⟩
abbrev iX1_takeTeacher : ux_I := (cX1_takeTeacher, 3, RX1, (some .boolean), [])
theorem kX1_takeTeacher : ux_lk yX1_takeTeacher iX1_takeTeacher 0 := ⟨ux_mem (n := 1267) (by decide +kernel) (by decide +kernel), ux_mem (n := 141) (by decide +kernel) (by decide +kernel), ⟨by decide +kernel, by decide +kernel⟩, by decide +kernel, by decide +kernel, rfl⟩
abbrev iX1_takeDigit : ux_I := (cX1_takeDigit, 4, RX1, (some .int), [])
theorem kX1_takeDigit : ux_lk yX1_takeDigit iX1_takeDigit 2 := ⟨ux_mem (n := 1271) (by decide +kernel) (by decide +kernel), ux_mem (n := 141) (by decide +kernel) (by decide +kernel), ⟨by decide +kernel, by decide +kernel⟩, by decide +kernel, by decide +kernel, rfl⟩
abbrev iX1_takeLesson : ux_I := (cX1_takeLesson, 1, RX1, (some .boolean), [])
theorem kX1_takeLesson : ux_lk yX1_takeLesson iX1_takeLesson 0 := ⟨ux_mem (n := 1276) (by decide +kernel) (by decide +kernel), ux_mem (n := 141) (by decide +kernel) (by decide +kernel), ⟨by decide +kernel, by decide +kernel⟩, by decide +kernel, by decide +kernel, rfl⟩
abbrev iX1_takeNumber : ux_I := (cX1_takeNumber, 3, RX1, (some .int), [])
theorem kX1_takeNumber : ux_lk yX1_takeNumber iX1_takeNumber 0 := ⟨ux_mem (n := 1280) (by decide +kernel) (by decide +kernel), ux_mem (n := 141) (by decide +kernel) (by decide +kernel), ⟨by decide +kernel, by decide +kernel⟩, by decide +kernel, by decide +kernel, rfl⟩
abbrev iX1_takeAbsence : ux_I := (cX1_takeAbsence, 1, RX1, (some .boolean), [])
theorem kX1_takeAbsence : ux_lk yX1_takeAbsence iX1_takeAbsence 0 := ⟨ux_mem (n := 1284) (by decide +kernel) (by decide +kernel), ux_mem (n := 141) (by decide +kernel) (by decide +kernel), ⟨by decide +kernel, by decide +kernel⟩, by decide +kernel, by decide +kernel, rfl⟩
abbrev iX1_tellTo : ux_I := (cX1_tellTo, 4, RX1, (some .int), [])
theorem kX1_tellTo : ux_lk yX1_tellTo iX1_tellTo 1 := ⟨ux_mem (n := 1289) (by decide +kernel) (by decide +kernel), ux_mem (n := 141) (by decide +kernel) (by decide +kernel), ⟨by decide +kernel, by decide +kernel⟩, by decide +kernel, by decide +kernel, rfl⟩
abbrev iX1_isRefusedBy : ux_I := (cX1_isRefusedBy, 2, RX1, (some .boolean), [])
theorem kX1_isRefusedBy : ux_lk yX1_isRefusedBy iX1_isRefusedBy 1 := ⟨ux_mem (n := 1293) (by decide +kernel) (by decide +kernel), ux_mem (n := 141) (by decide +kernel) (by decide +kernel), ⟨by decide +kernel, by decide +kernel⟩, by decide +kernel, by decide +kernel, rfl⟩
abbrev iL_errorPosition : ux_I := (cL_errorPosition, 3, RL, (some .int), [(0, 8, 11, 53)])
theorem kL_errorPosition : ux_lk yL_errorPosition iL_errorPosition 2 := ⟨ux_mem (n := 1302) (by decide +kernel) (by decide +kernel), ux_mem (n := 136) (by decide +kernel) (by decide +kernel), ⟨by decide +kernel, by decide +kernel⟩, by decide +kernel, by decide +kernel, rfl⟩
abbrev iX5_errorPosition : ux_I := (cX5_errorPosition, 1, RX5, (some .int), [])
theorem kX5_errorPosition : ux_lk yX5_errorPosition iX5_errorPosition 0 := ⟨ux_mem (n := 1306) (by decide +kernel) (by decide +kernel), ux_mem (n := 137) (by decide +kernel) (by decide +kernel), ⟨by decide +kernel, by decide +kernel⟩, by decide +kernel, by decide +kernel, rfl⟩
abbrev iL_describe : ux_I := (cL_describe, 5, RL, (some .int), [(0, 10, 13, 20), (0, 10, 17, 53)])
theorem kL_describe : ux_lk yL_describe iL_describe 4 := ⟨ux_mem (n := 1310) (by decide +kernel) (by decide +kernel), ux_mem (n := 136) (by decide +kernel) (by decide +kernel), ⟨by decide +kernel, by decide +kernel⟩, by decide +kernel, by decide +kernel, rfl⟩
abbrev iX5_describe : ux_I := (cX5_describe, 3, RX5, (some .int), [])
theorem kX5_describe : ux_lk yX5_describe iX5_describe 2 := ⟨ux_mem (n := 1314) (by decide +kernel) (by decide +kernel), ux_mem (n := 137) (by decide +kernel) (by decide +kernel), ⟨by decide +kernel, by decide +kernel⟩, by decide +kernel, by decide +kernel, rfl⟩
abbrev iX2_writeLesson : ux_I := (cX2_writeLesson, 4, RX2, none, [])
theorem kX2_writeLesson : ux_lk yX2_writeLesson iX2_writeLesson 2 := ⟨ux_mem (n := 1318) (by decide +kernel) (by decide +kernel), ux_mem (n := 142) (by decide +kernel) (by decide +kernel), ⟨by decide +kernel, by decide +kernel⟩, by decide +kernel, by decide +kernel, rfl⟩
abbrev iX2_add : ux_I := (cX2_add, 2, RX2, none, [])
theorem kX2_add : ux_lk yX2_add iX2_add 1 := ⟨ux_mem (n := 1323) (by decide +kernel) (by decide +kernel), ux_mem (n := 142) (by decide +kernel) (by decide +kernel), ⟨by decide +kernel, by decide +kernel⟩, by decide +kernel, by decide +kernel, rfl⟩
abbrev iX2_addDigit : ux_I := (cX2_addDigit, 2, RX2, none, [])
theorem kX2_addDigit : ux_lk yX2_addDigit iX2_addDigit 1 := ⟨ux_mem (n := 1327) (by decide +kernel) (by decide +kernel), ux_mem (n := 142) (by decide +kernel) (by decide +kernel), ⟨by decide +kernel, by decide +kernel⟩, by decide +kernel, by decide +kernel, rfl⟩
abbrev iL_undo : ux_I := (cL_undo, 3, RL, (some .int), [(0, 8, 11, 53)])
theorem kL_undo : ux_lk yL_undo iL_undo 2 := ⟨ux_mem (n := 1332) (by decide +kernel) (by decide +kernel), ux_mem (n := 136) (by decide +kernel) (by decide +kernel), ⟨by decide +kernel, by decide +kernel⟩, by decide +kernel, by decide +kernel, rfl⟩
abbrev iX5_undo : ux_I := (cX5_undo, 1, RX5, (some .int), [])
theorem kX5_undo : ux_lk yX5_undo iX5_undo 0 := ⟨ux_mem (n := 1336) (by decide +kernel) (by decide +kernel), ux_mem (n := 137) (by decide +kernel) (by decide +kernel), ⟨by decide +kernel, by decide +kernel⟩, by decide +kernel, by decide +kernel, rfl⟩
abbrev iX0_goBack : ux_I := (cX0_goBack, 3, RX0, none, [])
theorem kX0_goBack : ux_lk yX0_goBack iX0_goBack 1 := ⟨ux_mem (n := 1341) (by decide +kernel) (by decide +kernel), ux_mem (n := 139) (by decide +kernel) (by decide +kernel), ⟨by decide +kernel, by decide +kernel⟩, by decide +kernel, by decide +kernel, rfl⟩
abbrev iL_restore : ux_I := (cL_restore, 3, RL, (some .int), [(0, 8, 11, 15)])
theorem kL_restore : ux_lk yL_restore iL_restore 2 := ⟨ux_mem (n := 1344) (by decide +kernel) (by decide +kernel), ux_mem (n := 136) (by decide +kernel) (by decide +kernel), ⟨by decide +kernel, by decide +kernel⟩, by decide +kernel, by decide +kernel, rfl⟩
abbrev iX5_restore : ux_I := (cX5_restore, 1, RX5, (some .int), [])
theorem kX5_restore : ux_lk yX5_restore iX5_restore 0 := ⟨ux_mem (n := 1348) (by decide +kernel) (by decide +kernel), ux_mem (n := 137) (by decide +kernel) (by decide +kernel), ⟨by decide +kernel, by decide +kernel⟩, by decide +kernel, by decide +kernel, rfl⟩
abbrev iX6_empties : ux_I := (cX6_empties, 2, RX6, none, [])
theorem kX6_empties : ux_lk yX6_empties iX6_empties 0 := ⟨ux_mem (n := 1359) (by decide +kernel) (by decide +kernel), ux_mem (n := 143) (by decide +kernel) (by decide +kernel), ⟨by decide +kernel, by decide +kernel⟩, by decide +kernel, by decide +kernel, rfl⟩
abbrev iX6_thrown : ux_I := (cX6_thrown, 1, RX6, (some .int), [])
theorem kX6_thrown : ux_lk yX6_thrown iX6_thrown 0 := ⟨ux_mem (n := 1418) (by decide +kernel) (by decide +kernel), ux_mem (n := 143) (by decide +kernel) (by decide +kernel), ⟨by decide +kernel, by decide +kernel⟩, by decide +kernel, by decide +kernel, rfl⟩
abbrev iX6_clear : ux_I := (cX6_clear, 2, RX6, (some .int), [])
theorem kX6_clear : ux_lk yX6_clear iX6_clear 0 := ⟨ux_mem (n := 1422) (by decide +kernel) (by decide +kernel), ux_mem (n := 143) (by decide +kernel) (by decide +kernel), ⟨by decide +kernel, by decide +kernel⟩, by decide +kernel, by decide +kernel, rfl⟩
abbrev iX6_lessons : ux_I := (cX6_lessons, 1, RX6, (some .int), [])
theorem kX6_lessons : ux_lk yX6_lessons iX6_lessons 0 := ⟨ux_mem (n := 1426) (by decide +kernel) (by decide +kernel), ux_mem (n := 143) (by decide +kernel) (by decide +kernel), ⟨by decide +kernel, by decide +kernel⟩, by decide +kernel, by decide +kernel, rfl⟩
abbrev iX6_addTeacher : ux_I := (cX6_addTeacher, 4, RX6, (some .int), [])
theorem kX6_addTeacher : ux_lk yX6_addTeacher iX6_addTeacher 2 := ⟨ux_mem (n := 1430) (by decide +kernel) (by decide +kernel), ux_mem (n := 143) (by decide +kernel) (by decide +kernel), ⟨by decide +kernel, by decide +kernel⟩, by decide +kernel, by decide +kernel, rfl⟩
abbrev iX6_keepsAhead : ux_I := (cX6_keepsAhead, 2, RX6, none, [])
theorem kX6_keepsAhead : ux_lk yX6_keepsAhead iX6_keepsAhead 0 := ⟨ux_mem (n := 1434) (by decide +kernel) (by decide +kernel), ux_mem (n := 143) (by decide +kernel) (by decide +kernel), ⟨by decide +kernel, by decide +kernel⟩, by decide +kernel, by decide +kernel, rfl⟩
abbrev iX6_newTeacher : ux_I := (cX6_newTeacher, 4, RX6, (some .int), [])
theorem kX6_newTeacher : ux_lk yX6_newTeacher iX6_newTeacher 2 := ⟨ux_mem (n := 1438) (by decide +kernel) (by decide +kernel), ux_mem (n := 143) (by decide +kernel) (by decide +kernel), ⟨by decide +kernel, by decide +kernel⟩, by decide +kernel, by decide +kernel, rfl⟩
abbrev iX6_in : ux_I := (cX6_in, 3, RX6, (some .boolean), [])
theorem kX6_in : ux_lk yX6_in iX6_in 3 := ⟨ux_mem (n := 1441) (by decide +kernel) (by decide +kernel), ux_mem (n := 143) (by decide +kernel) (by decide +kernel), ⟨by decide +kernel, by decide +kernel⟩, by decide +kernel, by decide +kernel, rfl⟩
abbrev iX6_raises : ux_I := (cX6_raises, 2, RX6, (some .int), [])
theorem kX6_raises : ux_lk yX6_raises iX6_raises 1 := ⟨ux_mem (n := 1445) (by decide +kernel) (by decide +kernel), ux_mem (n := 143) (by decide +kernel) (by decide +kernel), ⟨by decide +kernel, by decide +kernel⟩, by decide +kernel, by decide +kernel, rfl⟩
abbrev iX6_teachers : ux_I := (cX6_teachers, 1, RX6, (some .int), [])
theorem kX6_teachers : ux_lk yX6_teachers iX6_teachers 0 := ⟨ux_mem (n := 1449) (by decide +kernel) (by decide +kernel), ux_mem (n := 143) (by decide +kernel) (by decide +kernel), ⟨by decide +kernel, by decide +kernel⟩, by decide +kernel, by decide +kernel, rfl⟩
abbrev iX6_teacherAt : ux_I := (cX6_teacherAt, 1, RX6, (some .int), [])
theorem kX6_teacherAt : ux_lk yX6_teacherAt iX6_teacherAt 1 := ⟨ux_mem (n := 1452) (by decide +kernel) (by decide +kernel), ux_mem (n := 143) (by decide +kernel) (by decide +kernel), ⟨by decide +kernel, by decide +kernel⟩, by decide +kernel, by decide +kernel, rfl⟩
abbrev iX6_keepsBehind : ux_I := (cX6_keepsBehind, 3, RX6, none, [])
theorem kX6_keepsBehind : ux_lk yX6_keepsBehind iX6_keepsBehind 0 := ⟨ux_mem (n := 1456) (by decide +kernel) (by decide +kernel), ux_mem (n := 143) (by decide +kernel) (by decide +kernel), ⟨by decide +kernel, by decide +kernel⟩, by decide +kernel, by decide +kernel, rfl⟩
abbrev iX6_changes : ux_I := (cX6_changes, 2, RX6, none, [])
theorem kX6_changes : ux_lk yX6_changes iX6_changes 0 := ⟨ux_mem (n := 1460) (by decide +kernel) (by decide +kernel), ux_mem (n := 143) (by decide +kernel) (by decide +kernel), ⟨by decide +kernel, by decide +kernel⟩, by decide +kernel, by decide +kernel, rfl⟩
abbrev iX6_setLimit : ux_I := (cX6_setLimit, 3, RX6, (some .int), [])
theorem kX6_setLimit : ux_lk yX6_setLimit iX6_setLimit 2 := ⟨ux_mem (n := 1464) (by decide +kernel) (by decide +kernel), ux_mem (n := 143) (by decide +kernel) (by decide +kernel), ⟨by decide +kernel, by decide +kernel⟩, by decide +kernel, by decide +kernel, rfl⟩
abbrev iX6_isTeacher : ux_I := (cX6_isTeacher, 2, RX6, (some .boolean), [])
theorem kX6_isTeacher : ux_lk yX6_isTeacher iX6_isTeacher 1 := ⟨ux_mem (n := 1468) (by decide +kernel) (by decide +kernel), ux_mem (n := 143) (by decide +kernel) (by decide +kernel), ⟨by decide +kernel, by decide +kernel⟩, by decide +kernel, by decide +kernel, rfl⟩
abbrev iX6_sets : ux_I := (cX6_sets, 4, RX6, (some .int), [])
theorem kX6_sets : ux_lk yX6_sets iX6_sets 2 := ⟨ux_mem (n := 1472) (by decide +kernel) (by decide +kernel), ux_mem (n := 143) (by decide +kernel) (by decide +kernel), ⟨by decide +kernel, by decide +kernel⟩, by decide +kernel, by decide +kernel, rfl⟩
abbrev iX6_setSize : ux_I := (cX6_setSize, 5, RX6, (some .int), [])
theorem kX6_setSize : ux_lk yX6_setSize iX6_setSize 2 := ⟨ux_mem (n := 1476) (by decide +kernel) (by decide +kernel), ux_mem (n := 143) (by decide +kernel) (by decide +kernel), ⟨by decide +kernel, by decide +kernel⟩, by decide +kernel, by decide +kernel, rfl⟩
abbrev iX6_isSix : ux_I := (cX6_isSix, 1, RX6, (some .boolean), [])
theorem kX6_isSix : ux_lk yX6_isSix iX6_isSix 1 := ⟨ux_mem (n := 1479) (by decide +kernel) (by decide +kernel), ux_mem (n := 143) (by decide +kernel) (by decide +kernel), ⟨by decide +kernel, by decide +kernel⟩, by decide +kernel, by decide +kernel, rfl⟩
abbrev iX6_isSplitClass : ux_I := (cX6_isSplitClass, 3, RX6, (some .boolean), [])
theorem kX6_isSplitClass : ux_lk yX6_isSplitClass iX6_isSplitClass 1 := ⟨ux_mem (n := 1483) (by decide +kernel) (by decide +kernel), ux_mem (n := 143) (by decide +kernel) (by decide +kernel), ⟨by decide +kernel, by decide +kernel⟩, by decide +kernel, by decide +kernel, rfl⟩
abbrev iX6_of : ux_I := (cX6_of, 3, RX6, (some .int), [])
theorem kX6_of : ux_lk yX6_of iX6_of 2 := ⟨ux_mem (n := 1487) (by decide +kernel) (by decide +kernel), ux_mem (n := 143) (by decide +kernel) (by decide +kernel), ⟨by decide +kernel, by decide +kernel⟩, by decide +kernel, by decide +kernel, rfl⟩
abbrev iX6_lessonAt : ux_I := (cX6_lessonAt, 1, RX6, (some .int), [])
theorem kX6_lessonAt : ux_lk yX6_lessonAt iX6_lessonAt 1 := ⟨ux_mem (n := 1490) (by decide +kernel) (by decide +kernel), ux_mem (n := 143) (by decide +kernel) (by decide +kernel), ⟨by decide +kernel, by decide +kernel⟩, by decide +kernel, by decide +kernel, rfl⟩
abbrev iX6_state : ux_I := (cX6_state, 2, RX6, (some .int), [])
theorem kX6_state : ux_lk yX6_state iX6_state 1 := ⟨ux_mem (n := 1494) (by decide +kernel) (by decide +kernel), ux_mem (n := 143) (by decide +kernel) (by decide +kernel), ⟨by decide +kernel, by decide +kernel⟩, by decide +kernel, by decide +kernel, rfl⟩
abbrev iX6_isAway : ux_I := (cX6_isAway, 3, RX6, (some .boolean), [])
theorem kX6_isAway : ux_lk yX6_isAway iX6_isAway 2 := ⟨ux_mem (n := 1498) (by decide +kernel) (by decide +kernel), ux_mem (n := 143) (by decide +kernel) (by decide +kernel), ⟨by decide +kernel, by decide +kernel⟩, by decide +kernel, by decide +kernel, rfl⟩
abbrev iX6_by : ux_I := (cX6_by, 3, RX6, (some .int), [])
theorem kX6_by : ux_lk yX6_by iX6_by 2 := ⟨ux_mem (n := 1502) (by decide +kernel) (by decide +kernel), ux_mem (n := 143) (by decide +kernel) (by decide +kernel), ⟨by decide +kernel, by decide +kernel⟩, by decide +kernel, by decide +kernel, rfl⟩
abbrev iX6_has : ux_I := (cX6_has, 2, RX6, (some .boolean), [])
theorem kX6_has : ux_lk yX6_has iX6_has 2 := ⟨ux_mem (n := 1505) (by decide +kernel) (by decide +kernel), ux_mem (n := 143) (by decide +kernel) (by decide +kernel), ⟨by decide +kernel, by decide +kernel⟩, by decide +kernel, by decide +kernel, rfl⟩
abbrev iX6_isTooFull : ux_I := (cX6_isTooFull, 2, RX6, (some .boolean), [])
theorem kX6_isTooFull : ux_lk yX6_isTooFull iX6_isTooFull 0 := ⟨ux_mem (n := 1509) (by decide +kernel) (by decide +kernel), ux_mem (n := 143) (by decide +kernel) (by decide +kernel), ⟨by decide +kernel, by decide +kernel⟩, by decide +kernel, by decide +kernel, rfl⟩
abbrev iX6_load : ux_I := (cX6_load, 5, RX6, (some .int), [])
theorem kX6_load : ux_lk yX6_load iX6_load 1 := ⟨ux_mem (n := 1513) (by decide +kernel) (by decide +kernel), ux_mem (n := 143) (by decide +kernel) (by decide +kernel), ⟨by decide +kernel, by decide +kernel⟩, by decide +kernel, by decide +kernel, rfl⟩
abbrev iX6_setCapacity : ux_I := (cX6_setCapacity, 5, RX6, (some .int), [])
theorem kX6_setCapacity : ux_lk yX6_setCapacity iX6_setCapacity 2 := ⟨ux_mem (n := 1517) (by decide +kernel) (by decide +kernel), ux_mem (n := 143) (by decide +kernel) (by decide +kernel), ⟨by decide +kernel, by decide +kernel⟩, by decide +kernel, by decide +kernel, rfl⟩
abbrev iX6_addLesson : ux_I := (cX6_addLesson, 7, RX6, (some .int), [])
theorem kX6_addLesson : ux_lk yX6_addLesson iX6_addLesson 5 := ⟨ux_mem (n := 1521) (by decide +kernel) (by decide +kernel), ux_mem (n := 143) (by decide +kernel) (by decide +kernel), ⟨by decide +kernel, by decide +kernel⟩, by decide +kernel, by decide +kernel, rfl⟩
abbrev iX6_newLesson : ux_I := (cX6_newLesson, 7, RX6, (some .int), [])
theorem kX6_newLesson : ux_lk yX6_newLesson iX6_newLesson 5 := ⟨ux_mem (n := 1525) (by decide +kernel) (by decide +kernel), ux_mem (n := 143) (by decide +kernel) (by decide +kernel), ⟨by decide +kernel, by decide +kernel⟩, by decide +kernel, by decide +kernel, rfl⟩
abbrev iX6_isSlot : ux_I := (cX6_isSlot, 1, RX6, (some .boolean), [])
theorem kX6_isSlot : ux_lk yX6_isSlot iX6_isSlot 1 := ⟨ux_mem (n := 1528) (by decide +kernel) (by decide +kernel), ux_mem (n := 143) (by decide +kernel) (by decide +kernel), ⟨by decide +kernel, by decide +kernel⟩, by decide +kernel, by decide +kernel, rfl⟩
abbrev iX6_collides : ux_I := (cX6_collides, 6, RX6, (some .boolean), [])
theorem kX6_collides : ux_lk yX6_collides iX6_collides 4 := ⟨ux_mem (n := 1532) (by decide +kernel) (by decide +kernel), ux_mem (n := 143) (by decide +kernel) (by decide +kernel), ⟨by decide +kernel, by decide +kernel⟩, by decide +kernel, by decide +kernel, rfl⟩
abbrev iX6_covers : ux_I := (cX6_covers, 4, RX6, (some .boolean), [])
theorem kX6_covers : ux_lk yX6_covers iX6_covers 2 := ⟨ux_mem (n := 1536) (by decide +kernel) (by decide +kernel), ux_mem (n := 143) (by decide +kernel) (by decide +kernel), ⟨by decide +kernel, by decide +kernel⟩, by decide +kernel, by decide +kernel, rfl⟩
abbrev iX6_removeLesson : ux_I := (cX6_removeLesson, 3, RX6, (some .int), [])
theorem kX6_removeLesson : ux_lk yX6_removeLesson iX6_removeLesson 1 := ⟨ux_mem (n := 1540) (by decide +kernel) (by decide +kernel), ux_mem (n := 143) (by decide +kernel) (by decide +kernel), ⟨by decide +kernel, by decide +kernel⟩, by decide +kernel, by decide +kernel, rfl⟩
abbrev iX6_isLesson : ux_I := (cX6_isLesson, 2, RX6, (some .boolean), [])
theorem kX6_isLesson : ux_lk yX6_isLesson iX6_isLesson 1 := ⟨ux_mem (n := 1544) (by decide +kernel) (by decide +kernel), ux_mem (n := 143) (by decide +kernel) (by decide +kernel), ⟨by decide +kernel, by decide +kernel⟩, by decide +kernel, by decide +kernel, rfl⟩
abbrev iX6_endsHosted : ux_I := (cX6_endsHosted, 4, RX6, (some .int), [])
theorem kX6_endsHosted : ux_lk yX6_endsHosted iX6_endsHosted 1 := ⟨ux_mem (n := 1548) (by decide +kernel) (by decide +kernel), ux_mem (n := 143) (by decide +kernel) (by decide +kernel), ⟨by decide +kernel, by decide +kernel⟩, by decide +kernel, by decide +kernel, rfl⟩
abbrev iX6_endsSplit : ux_I := (cX6_endsSplit, 2, RX6, none, [])
theorem kX6_endsSplit : ux_lk yX6_endsSplit iX6_endsSplit 1 := ⟨ux_mem (n := 1552) (by decide +kernel) (by decide +kernel), ux_mem (n := 143) (by decide +kernel) (by decide +kernel), ⟨by decide +kernel, by decide +kernel⟩, by decide +kernel, by decide +kernel, rfl⟩
abbrev iX6_acting : ux_I := (cX6_acting, 2, RX6, (some .int), [])
theorem kX6_acting : ux_lk yX6_acting iX6_acting 1 := ⟨ux_mem (n := 1556) (by decide +kernel) (by decide +kernel), ux_mem (n := 143) (by decide +kernel) (by decide +kernel), ⟨by decide +kernel, by decide +kernel⟩, by decide +kernel, by decide +kernel, rfl⟩
abbrev iX6_gains : ux_I := (cX6_gains, 3, RX6, none, [])
theorem kX6_gains : ux_lk yX6_gains iX6_gains 2 := ⟨ux_mem (n := 1560) (by decide +kernel) (by decide +kernel), ux_mem (n := 143) (by decide +kernel) (by decide +kernel), ⟨by decide +kernel, by decide +kernel⟩, by decide +kernel, by decide +kernel, rfl⟩
abbrev iX6_endsAll : ux_I := (cX6_endsAll, 3, RX6, (some .int), [])
theorem kX6_endsAll : ux_lk yX6_endsAll iX6_endsAll 1 := ⟨ux_mem (n := 1564) (by decide +kernel) (by decide +kernel), ux_mem (n := 143) (by decide +kernel) (by decide +kernel), ⟨by decide +kernel, by decide +kernel⟩, by decide +kernel, by decide +kernel, rfl⟩
abbrev iX6_endsCover : ux_I := (cX6_endsCover, 3, RX6, (some .int), [])
theorem kX6_endsCover : ux_lk yX6_endsCover iX6_endsCover 1 := ⟨ux_mem (n := 1568) (by decide +kernel) (by decide +kernel), ux_mem (n := 143) (by decide +kernel) (by decide +kernel), ⟨by decide +kernel, by decide +kernel⟩, by decide +kernel, by decide +kernel, rfl⟩
abbrev iX6_worth : ux_I := (cX6_worth, 4, RX6, (some .int), [])
theorem kX6_worth : ux_lk yX6_worth iX6_worth 2 := ⟨ux_mem (n := 1572) (by decide +kernel) (by decide +kernel), ux_mem (n := 143) (by decide +kernel) (by decide +kernel), ⟨by decide +kernel, by decide +kernel⟩, by decide +kernel, by decide +kernel, rfl⟩
abbrev iX6_setRoom : ux_I := (cX6_setRoom, 4, RX6, (some .int), [])
theorem kX6_setRoom : ux_lk yX6_setRoom iX6_setRoom 2 := ⟨ux_mem (n := 1576) (by decide +kernel) (by decide +kernel), ux_mem (n := 143) (by decide +kernel) (by decide +kernel), ⟨by decide +kernel, by decide +kernel⟩, by decide +kernel, by decide +kernel, rfl⟩
abbrev iX6_count : ux_I := (cX6_count, 4, RX6, (some .int), [])
theorem kX6_count : ux_lk yX6_count iX6_count 1 := ⟨ux_mem (n := 1580) (by decide +kernel) (by decide +kernel), ux_mem (n := 143) (by decide +kernel) (by decide +kernel), ⟨by decide +kernel, by decide +kernel⟩, by decide +kernel, by decide +kernel, rfl⟩
abbrev iX6_lesson : ux_I := (cX6_lesson, 3, RX6, (some .int), [])
theorem kX6_lesson : ux_lk yX6_lesson iX6_lesson 2 := ⟨ux_mem (n := 1584) (by decide +kernel) (by decide +kernel), ux_mem (n := 143) (by decide +kernel) (by decide +kernel), ⟨by decide +kernel, by decide +kernel⟩, by decide +kernel, by decide +kernel, rfl⟩
abbrev iX6_teacher : ux_I := (cX6_teacher, 3, RX6, (some .int), [])
theorem kX6_teacher : ux_lk yX6_teacher iX6_teacher 2 := ⟨ux_mem (n := 1588) (by decide +kernel) (by decide +kernel), ux_mem (n := 143) (by decide +kernel) (by decide +kernel), ⟨by decide +kernel, by decide +kernel⟩, by decide +kernel, by decide +kernel, rfl⟩
abbrev iX6_share : ux_I := (cX6_share, 3, RX6, (some .int), [])
theorem kX6_share : ux_lk yX6_share iX6_share 2 := ⟨ux_mem (n := 1592) (by decide +kernel) (by decide +kernel), ux_mem (n := 143) (by decide +kernel) (by decide +kernel), ⟨by decide +kernel, by decide +kernel⟩, by decide +kernel, by decide +kernel, rfl⟩
abbrev iX6_lessonsOf : ux_I := (cX6_lessonsOf, 5, RX6, (some .int), [])
theorem kX6_lessonsOf : ux_lk yX6_lessonsOf iX6_lessonsOf 2 := ⟨ux_mem (n := 1596) (by decide +kernel) (by decide +kernel), ux_mem (n := 143) (by decide +kernel) (by decide +kernel), ⟨by decide +kernel, by decide +kernel⟩, by decide +kernel, by decide +kernel, rfl⟩
abbrev iX6_lessonOf : ux_I := (cX6_lessonOf, 4, RX6, (some .int), [])
theorem kX6_lessonOf : ux_lk yX6_lessonOf iX6_lessonOf 2 := ⟨ux_mem (n := 1600) (by decide +kernel) (by decide +kernel), ux_mem (n := 143) (by decide +kernel) (by decide +kernel), ⟨by decide +kernel, by decide +kernel⟩, by decide +kernel, by decide +kernel, rfl⟩
abbrev iX6_find : ux_I := (cX6_find, 6, RX6, (some .int), [])
theorem kX6_find : ux_lk yX6_find iX6_find 3 := ⟨ux_mem (n := 1604) (by decide +kernel) (by decide +kernel), ux_mem (n := 143) (by decide +kernel) (by decide +kernel), ⟨by decide +kernel, by decide +kernel⟩, by decide +kernel, by decide +kernel, rfl⟩
abbrev iX6_setAbsent : ux_I := (cX6_setAbsent, 4, RX6, (some .int), [])
theorem kX6_setAbsent : ux_lk yX6_setAbsent iX6_setAbsent 3 := ⟨ux_mem (n := 1608) (by decide +kernel) (by decide +kernel), ux_mem (n := 143) (by decide +kernel) (by decide +kernel), ⟨by decide +kernel, by decide +kernel⟩, by decide +kernel, by decide +kernel, rfl⟩
abbrev iX6_turns : ux_I := (cX6_turns, 7, RX6, (some .int), [])
theorem kX6_turns : ux_lk yX6_turns iX6_turns 3 := ⟨ux_mem (n := 1612) (by decide +kernel) (by decide +kernel), ux_mem (n := 143) (by decide +kernel) (by decide +kernel), ⟨by decide +kernel, by decide +kernel⟩, by decide +kernel, by decide +kernel, rfl⟩
abbrev iX6_absent : ux_I := (cX6_absent, 3, RX6, (some .int), [])
theorem kX6_absent : ux_lk yX6_absent iX6_absent 2 := ⟨ux_mem (n := 1616) (by decide +kernel) (by decide +kernel), ux_mem (n := 143) (by decide +kernel) (by decide +kernel), ⟨by decide +kernel, by decide +kernel⟩, by decide +kernel, by decide +kernel, rfl⟩
abbrev iX6_isDay : ux_I := (cX6_isDay, 1, RX6, (some .boolean), [])
theorem kX6_isDay : ux_lk yX6_isDay iX6_isDay 1 := ⟨ux_mem (n := 1619) (by decide +kernel) (by decide +kernel), ux_mem (n := 143) (by decide +kernel) (by decide +kernel), ⟨by decide +kernel, by decide +kernel⟩, by decide +kernel, by decide +kernel, rfl⟩
abbrev iX6_free : ux_I := (cX6_free, 6, RX6, (some .int), [])
theorem kX6_free : ux_lk yX6_free iX6_free 2 := ⟨ux_mem (n := 1623) (by decide +kernel) (by decide +kernel), ux_mem (n := 143) (by decide +kernel) (by decide +kernel), ⟨by decide +kernel, by decide +kernel⟩, by decide +kernel, by decide +kernel, rfl⟩
abbrev iX6_freeRooms : ux_I := (cX6_freeRooms, 4, RX6, (some .int), [])
theorem kX6_freeRooms : ux_lk yX6_freeRooms iX6_freeRooms 1 := ⟨ux_mem (n := 1627) (by decide +kernel) (by decide +kernel), ux_mem (n := 143) (by decide +kernel) (by decide +kernel), ⟨by decide +kernel, by decide +kernel⟩, by decide +kernel, by decide +kernel, rfl⟩
abbrev iX6_openOn : ux_I := (cX6_openOn, 2, RX6, (some .int), [])
theorem kX6_openOn : ux_lk yX6_openOn iX6_openOn 1 := ⟨ux_mem (n := 1631) (by decide +kernel) (by decide +kernel), ux_mem (n := 143) (by decide +kernel) (by decide +kernel), ⟨by decide +kernel, by decide +kernel⟩, by decide +kernel, by decide +kernel, rfl⟩
abbrev iX6_listsOpen : ux_I := (cX6_listsOpen, 5, RX6, (some .int), [])
theorem kX6_listsOpen : ux_lk yX6_listsOpen iX6_listsOpen 1 := ⟨ux_mem (n := 1635) (by decide +kernel) (by decide +kernel), ux_mem (n := 143) (by decide +kernel) (by decide +kernel), ⟨by decide +kernel, by decide +kernel⟩, by decide +kernel, by decide +kernel, rfl⟩
abbrev iX6_open : ux_I := (cX6_open, 3, RX6, (some .int), [])
theorem kX6_open : ux_lk yX6_open iX6_open 2 := ⟨ux_mem (n := 1639) (by decide +kernel) (by decide +kernel), ux_mem (n := 143) (by decide +kernel) (by decide +kernel), ⟨by decide +kernel, by decide +kernel⟩, by decide +kernel, by decide +kernel, rfl⟩
abbrev iX6_why : ux_I := (cX6_why, 3, RX6, (some .int), [])
theorem kX6_why : ux_lk yX6_why iX6_why 2 := ⟨ux_mem (n := 1643) (by decide +kernel) (by decide +kernel), ux_mem (n := 143) (by decide +kernel) (by decide +kernel), ⟨by decide +kernel, by decide +kernel⟩, by decide +kernel, by decide +kernel, rfl⟩
abbrev iX6_bar : ux_I := (cX6_bar, 4, RX6, (some .int), [])
theorem kX6_bar : ux_lk yX6_bar iX6_bar 2 := ⟨ux_mem (n := 1647) (by decide +kernel) (by decide +kernel), ux_mem (n := 143) (by decide +kernel) (by decide +kernel), ⟨by decide +kernel, by decide +kernel⟩, by decide +kernel, by decide +kernel, rfl⟩
abbrev iX6_coversOn : ux_I := (cX6_coversOn, 5, RX6, (some .int), [])
theorem kX6_coversOn : ux_lk yX6_coversOn iX6_coversOn 2 := ⟨ux_mem (n := 1651) (by decide +kernel) (by decide +kernel), ux_mem (n := 143) (by decide +kernel) (by decide +kernel), ⟨by decide +kernel, by decide +kernel⟩, by decide +kernel, by decide +kernel, rfl⟩
abbrev iX6_points : ux_I := (cX6_points, 3, RX6, (some .int), [])
theorem kX6_points : ux_lk yX6_points iX6_points 2 := ⟨ux_mem (n := 1655) (by decide +kernel) (by decide +kernel), ux_mem (n := 143) (by decide +kernel) (by decide +kernel), ⟨by decide +kernel, by decide +kernel⟩, by decide +kernel, by decide +kernel, rfl⟩
abbrev iX6_suggestion : ux_I := (cX6_suggestion, 3, RX6, (some .int), [])
theorem kX6_suggestion : ux_lk yX6_suggestion iX6_suggestion 1 := ⟨ux_mem (n := 1659) (by decide +kernel) (by decide +kernel), ux_mem (n := 143) (by decide +kernel) (by decide +kernel), ⟨by decide +kernel, by decide +kernel⟩, by decide +kernel, by decide +kernel, rfl⟩
abbrev iX6_suggested : ux_I := (cX6_suggested, 7, RX6, (some .int), [])
theorem kX6_suggested : ux_lk yX6_suggested iX6_suggested 1 := ⟨ux_mem (n := 1663) (by decide +kernel) (by decide +kernel), ux_mem (n := 143) (by decide +kernel) (by decide +kernel), ⟨by decide +kernel, by decide +kernel⟩, by decide +kernel, by decide +kernel, rfl⟩
abbrev iX6_knows : ux_I := (cX6_knows, 3, RX6, (some .boolean), [])
theorem kX6_knows : ux_lk yX6_knows iX6_knows 2 := ⟨ux_mem (n := 1667) (by decide +kernel) (by decide +kernel), ux_mem (n := 143) (by decide +kernel) (by decide +kernel), ⟨by decide +kernel, by decide +kernel⟩, by decide +kernel, by decide +kernel, rfl⟩
abbrev iX6_cover : ux_I := (cX6_cover, 4, RX6, (some .int), [])
theorem kX6_cover : ux_lk yX6_cover iX6_cover 2 := ⟨ux_mem (n := 1671) (by decide +kernel) (by decide +kernel), ux_mem (n := 143) (by decide +kernel) (by decide +kernel), ⟨by decide +kernel, by decide +kernel⟩, by decide +kernel, by decide +kernel, rfl⟩
abbrev iX6_begins : ux_I := (cX6_begins, 3, RX6, (some .int), [])
theorem kX6_begins : ux_lk yX6_begins iX6_begins 2 := ⟨ux_mem (n := 1675) (by decide +kernel) (by decide +kernel), ux_mem (n := 143) (by decide +kernel) (by decide +kernel), ⟨by decide +kernel, by decide +kernel⟩, by decide +kernel, by decide +kernel, rfl⟩
abbrev iX6_uncover : ux_I := (cX6_uncover, 3, RX6, (some .int), [])
theorem kX6_uncover : ux_lk yX6_uncover iX6_uncover 1 := ⟨ux_mem (n := 1679) (by decide +kernel) (by decide +kernel), ux_mem (n := 143) (by decide +kernel) (by decide +kernel), ⟨by decide +kernel, by decide +kernel⟩, by decide +kernel, by decide +kernel, rfl⟩
abbrev iX6_split : ux_I := (cX6_split, 5, RX6, (some .int), [])
theorem kX6_split : ux_lk yX6_split iX6_split 3 := ⟨ux_mem (n := 1683) (by decide +kernel) (by decide +kernel), ux_mem (n := 143) (by decide +kernel) (by decide +kernel), ⟨by decide +kernel, by decide +kernel⟩, by decide +kernel, by decide +kernel, rfl⟩
abbrev iX6_canHost : ux_I := (cX6_canHost, 3, RX6, (some .boolean), [])
theorem kX6_canHost : ux_lk yX6_canHost iX6_canHost 2 := ⟨ux_mem (n := 1687) (by decide +kernel) (by decide +kernel), ux_mem (n := 143) (by decide +kernel) (by decide +kernel), ⟨by decide +kernel, by decide +kernel⟩, by decide +kernel, by decide +kernel, rfl⟩
abbrev iX6_unsplit : ux_I := (cX6_unsplit, 2, RX6, (some .int), [])
theorem kX6_unsplit : ux_lk yX6_unsplit iX6_unsplit 1 := ⟨ux_mem (n := 1691) (by decide +kernel) (by decide +kernel), ux_mem (n := 143) (by decide +kernel) (by decide +kernel), ⟨by decide +kernel, by decide +kernel⟩, by decide +kernel, by decide +kernel, rfl⟩
abbrev iX6_host : ux_I := (cX6_host, 3, RX6, (some .int), [])
theorem kX6_host : ux_lk yX6_host iX6_host 2 := ⟨ux_mem (n := 1695) (by decide +kernel) (by decide +kernel), ux_mem (n := 143) (by decide +kernel) (by decide +kernel), ⟨by decide +kernel, by decide +kernel⟩, by decide +kernel, by decide +kernel, rfl⟩
abbrev iX6_refusal : ux_I := (cX6_refusal, 1, RX6, (some .int), [])
theorem kX6_refusal : ux_lk yX6_refusal iX6_refusal 0 := ⟨ux_mem (n := 1699) (by decide +kernel) (by decide +kernel), ux_mem (n := 143) (by decide +kernel) (by decide +kernel), ⟨by decide +kernel, by decide +kernel⟩, by decide +kernel, by decide +kernel, rfl⟩
abbrev iX6_coverDay : ux_I := (cX6_coverDay, 6, RX6, (some .int), [])
theorem kX6_coverDay : ux_lk yX6_coverDay iX6_coverDay 1 := ⟨ux_mem (n := 1703) (by decide +kernel) (by decide +kernel), ux_mem (n := 143) (by decide +kernel) (by decide +kernel), ⟨by decide +kernel, by decide +kernel⟩, by decide +kernel, by decide +kernel, rfl⟩
abbrev iX6_spread : ux_I := (cX6_spread, 1, RX6, (some .int), [])
theorem kX6_spread : ux_lk yX6_spread iX6_spread 0 := ⟨ux_mem (n := 1707) (by decide +kernel) (by decide +kernel), ux_mem (n := 143) (by decide +kernel) (by decide +kernel), ⟨by decide +kernel, by decide +kernel⟩, by decide +kernel, by decide +kernel, rfl⟩
abbrev iX6_spreadNow : ux_I := (cX6_spreadNow, 4, RX6, (some .int), [])
theorem kX6_spreadNow : ux_lk yX6_spreadNow iX6_spreadNow 0 := ⟨ux_mem (n := 1711) (by decide +kernel) (by decide +kernel), ux_mem (n := 143) (by decide +kernel) (by decide +kernel), ⟨by decide +kernel, by decide +kernel⟩, by decide +kernel, by decide +kernel, rfl⟩
abbrev iX6_extreme : ux_I := (cX6_extreme, 5, RX6, (some .int), [])
theorem kX6_extreme : ux_lk yX6_extreme iX6_extreme 1 := ⟨ux_mem (n := 1717) (by decide +kernel) (by decide +kernel), ux_mem (n := 143) (by decide +kernel) (by decide +kernel), ⟨by decide +kernel, by decide +kernel⟩, by decide +kernel, by decide +kernel, rfl⟩
abbrev iX6_plannedSpread : ux_I := (cX6_plannedSpread, 2, RX6, (some .int), [])
theorem kX6_plannedSpread : ux_lk yX6_plannedSpread iX6_plannedSpread 1 := ⟨ux_mem (n := 1721) (by decide +kernel) (by decide +kernel), ux_mem (n := 143) (by decide +kernel) (by decide +kernel), ⟨by decide +kernel, by decide +kernel⟩, by decide +kernel, by decide +kernel, rfl⟩
abbrev iX6_looks : ux_I := (cX6_looks, 3, RX6, (some .int), [])
theorem kX6_looks : ux_lk yX6_looks iX6_looks 1 := ⟨ux_mem (n := 1725) (by decide +kernel) (by decide +kernel), ux_mem (n := 143) (by decide +kernel) (by decide +kernel), ⟨by decide +kernel, by decide +kernel⟩, by decide +kernel, by decide +kernel, rfl⟩
abbrev iX6_plans : ux_I := (cX6_plans, 5, RX6, none, [])
theorem kX6_plans : ux_lk yX6_plans iX6_plans 2 := ⟨ux_mem (n := 1729) (by decide +kernel) (by decide +kernel), ux_mem (n := 143) (by decide +kernel) (by decide +kernel), ⟨by decide +kernel, by decide +kernel⟩, by decide +kernel, by decide +kernel, rfl⟩
abbrev iX6_planned : ux_I := (cX6_planned, 4, RX6, (some .int), [])
theorem kX6_planned : ux_lk yX6_planned iX6_planned 2 := ⟨ux_mem (n := 1733) (by decide +kernel) (by decide +kernel), ux_mem (n := 143) (by decide +kernel) (by decide +kernel), ⟨by decide +kernel, by decide +kernel⟩, by decide +kernel, by decide +kernel, rfl⟩
abbrev iX6_carryOut : ux_I := (cX6_carryOut, 4, RX6, (some .int), [])
theorem kX6_carryOut : ux_lk yX6_carryOut iX6_carryOut 1 := ⟨ux_mem (n := 1737) (by decide +kernel) (by decide +kernel), ux_mem (n := 143) (by decide +kernel) (by decide +kernel), ⟨by decide +kernel, by decide +kernel⟩, by decide +kernel, by decide +kernel, rfl⟩
abbrev iX6_plans_ : ux_I := (cX6_plans_, 2, RX6, (some .int), [])
theorem kX6_plans_ : ux_lk yX6_plans_ iX6_plans_ 1 := ⟨ux_mem (n := 1741) (by decide +kernel) (by decide +kernel), ux_mem (n := 143) (by decide +kernel) (by decide +kernel), ⟨by decide +kernel, by decide +kernel⟩, by decide +kernel, by decide +kernel, rfl⟩
abbrev iX6_averagePoints : ux_I := (cX6_averagePoints, 4, RX6, (some .double), [])
theorem kX6_averagePoints : ux_lk yX6_averagePoints iX6_averagePoints 1 := ⟨ux_mem (n := 1745) (by decide +kernel) (by decide +kernel), ux_mem (n := 143) (by decide +kernel) (by decide +kernel), ⟨by decide +kernel, by decide +kernel⟩, by decide +kernel, by decide +kernel, rfl⟩
abbrev iX6_audit : ux_I := (cX6_audit, 5, RX6, (some .int), [])
theorem kX6_audit : ux_lk yX6_audit iX6_audit 0 := ⟨ux_mem (n := 1750) (by decide +kernel) (by decide +kernel), ux_mem (n := 143) (by decide +kernel) (by decide +kernel), ⟨by decide +kernel, by decide +kernel⟩, by decide +kernel, by decide +kernel, rfl⟩
abbrev iX6_lost : ux_I := (cX6_lost, 4, RX6, (some .int), [])
theorem kX6_lost : ux_lk yX6_lost iX6_lost 1 := ⟨ux_mem (n := 1754) (by decide +kernel) (by decide +kernel), ux_mem (n := 143) (by decide +kernel) (by decide +kernel), ⟨by decide +kernel, by decide +kernel⟩, by decide +kernel, by decide +kernel, rfl⟩
abbrev iX6_append : ux_I := (cX6_append, 2, RX6, (some .int), [])
theorem kX6_append : ux_lk yX6_append iX6_append 1 := ⟨ux_mem (n := 1758) (by decide +kernel) (by decide +kernel), ux_mem (n := 143) (by decide +kernel) (by decide +kernel), ⟨by decide +kernel, by decide +kernel⟩, by decide +kernel, by decide +kernel, rfl⟩
abbrev iX6_read : ux_I := (cX6_read, 6, RX6, (some .int), [])
theorem kX6_read : ux_lk yX6_read iX6_read 0 := ⟨ux_mem (n := 1762) (by decide +kernel) (by decide +kernel), ux_mem (n := 143) (by decide +kernel) (by decide +kernel), ⟨by decide +kernel, by decide +kernel⟩, by decide +kernel, by decide +kernel, rfl⟩
abbrev iX6_isEntry : ux_I := (cX6_isEntry, 2, RX6, (some .boolean), [])
theorem kX6_isEntry : ux_lk yX6_isEntry iX6_isEntry 0 := ⟨ux_mem (n := 1766) (by decide +kernel) (by decide +kernel), ux_mem (n := 143) (by decide +kernel) (by decide +kernel), ⟨by decide +kernel, by decide +kernel⟩, by decide +kernel, by decide +kernel, rfl⟩
abbrev iX6_takes : ux_I := (cX6_takes, 3, RX6, (some .boolean), [])
theorem kX6_takes : ux_lk yX6_takes iX6_takes 2 := ⟨ux_mem (n := 1770) (by decide +kernel) (by decide +kernel), ux_mem (n := 143) (by decide +kernel) (by decide +kernel), ⟨by decide +kernel, by decide +kernel⟩, by decide +kernel, by decide +kernel, rfl⟩
abbrev iX6_isNumber : ux_I := (cX6_isNumber, 1, RX6, (some .boolean), [])
theorem kX6_isNumber : ux_lk yX6_isNumber iX6_isNumber 0 := ⟨ux_mem (n := 1774) (by decide +kernel) (by decide +kernel), ux_mem (n := 143) (by decide +kernel) (by decide +kernel), ⟨by decide +kernel, by decide +kernel⟩, by decide +kernel, by decide +kernel, rfl⟩
abbrev iX6_isMarked : ux_I := (cX6_isMarked, 3, RX6, (some .boolean), [])
theorem kX6_isMarked : ux_lk yX6_isMarked iX6_isMarked 2 := ⟨ux_mem (n := 1778) (by decide +kernel) (by decide +kernel), ux_mem (n := 143) (by decide +kernel) (by decide +kernel), ⟨by decide +kernel, by decide +kernel⟩, by decide +kernel, by decide +kernel, rfl⟩
abbrev iX6_does : ux_I := (cX6_does, 4, RX6, (some .int), [])
theorem kX6_does : ux_lk yX6_does iX6_does 1 := ⟨ux_mem (n := 1782) (by decide +kernel) (by decide +kernel), ux_mem (n := 143) (by decide +kernel) (by decide +kernel), ⟨by decide +kernel, by decide +kernel⟩, by decide +kernel, by decide +kernel, rfl⟩
abbrev iX6_number : ux_I := (cX6_number, 3, RX6, (some .int), [])
theorem kX6_number : ux_lk yX6_number iX6_number 1 := ⟨ux_mem (n := 1786) (by decide +kernel) (by decide +kernel), ux_mem (n := 143) (by decide +kernel) (by decide +kernel), ⟨by decide +kernel, by decide +kernel⟩, by decide +kernel, by decide +kernel, rfl⟩
abbrev iX6_errorPosition : ux_I := (cX6_errorPosition, 1, RX6, (some .int), [])
theorem kX6_errorPosition : ux_lk yX6_errorPosition iX6_errorPosition 0 := ⟨ux_mem (n := 1790) (by decide +kernel) (by decide +kernel), ux_mem (n := 143) (by decide +kernel) (by decide +kernel), ⟨by decide +kernel, by decide +kernel⟩, by decide +kernel, by decide +kernel, rfl⟩
abbrev iX6_describe : ux_I := (cX6_describe, 6, RX6, (some .int), [])
theorem kX6_describe : ux_lk yX6_describe iX6_describe 2 := ⟨ux_mem (n := 1794) (by decide +kernel) (by decide +kernel), ux_mem (n := 143) (by decide +kernel) (by decide +kernel), ⟨by decide +kernel, by decide +kernel⟩, by decide +kernel, by decide +kernel, rfl⟩
abbrev iX6_undo : ux_I := (cX6_undo, 2, RX6, (some .int), [])
theorem kX6_undo : ux_lk yX6_undo iX6_undo 0 := ⟨ux_mem (n := 1839) (by decide +kernel) (by decide +kernel), ux_mem (n := 143) (by decide +kernel) (by decide +kernel), ⟨by decide +kernel, by decide +kernel⟩, by decide +kernel, by decide +kernel, rfl⟩
abbrev iX6_save : ux_I := (cX6_save, 2, RX6, (some .int), [])
theorem kX6_save : ux_lk yX6_save iX6_save 0 := ⟨ux_mem (n := 1843) (by decide +kernel) (by decide +kernel), ux_mem (n := 143) (by decide +kernel) (by decide +kernel), ⟨by decide +kernel, by decide +kernel⟩, by decide +kernel, by decide +kernel, rfl⟩
abbrev iX6_restore : ux_I := (cX6_restore, 2, RX6, (some .int), [])
theorem kX6_restore : ux_lk yX6_restore iX6_restore 0 := ⟨ux_mem (n := 1847) (by decide +kernel) (by decide +kernel), ux_mem (n := 143) (by decide +kernel) (by decide +kernel), ⟨by decide +kernel, by decide +kernel⟩, by decide +kernel, by decide +kernel, rfl⟩
