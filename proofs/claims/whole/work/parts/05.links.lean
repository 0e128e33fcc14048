abbrev M_X10_init : fp_M := (yX10_init, cX10_init, 5, none)
abbrev M_J9_min_7cf53 : fp_M := (yJ9_min_7cf53, cJ9_min_7cf53, 2, (some .int))
abbrev M_J9_max_7cf53 : fp_M := (yJ9_max_7cf53, cJ9_max_7cf53, 2, (some .int))
abbrev M_X9_init : fp_M := (yX9_init, cX9_init, 1, none)
abbrev M_X0_init : fp_M := (yX0_init, cX0_init, 2, none)
abbrev M_X6_init : fp_M := (yX6_init, cX6_init, 3, none)
abbrev M_X2_init : fp_M := (yX2_init, cX2_init, 3, none)
abbrev M_X8_init : fp_M := (yX8_init, cX8_init, 2, none)
abbrev M_Jx4a65c_init_da8c8 : fp_M := (yJx4a65c_init_da8c8, cJx4a65c_init_da8c8, 1, none)
abbrev M_Jxc12de_init_da8c8 : fp_M := (yJxc12de_init_da8c8, cJxc12de_init_da8c8, 1, none)
abbrev M_Jxa1e45_init_da8c8 : fp_M := (yJxa1e45_init_da8c8, cJxa1e45_init_da8c8, 1, none)
abbrev M_X1_init : fp_M := (yX1_init, cX1_init, 2, none)
abbrev M_X4_init : fp_M := (yX4_init, cX4_init, 2, none)
abbrev M_X10_field : fp_M := (yX10_field, cX10_field, 6, (some .int))
abbrev M_Jx4a65c_size_8abf5 : fp_M := (yJx4a65c_size_8abf5, cJx4a65c_size_8abf5, 1, (some .int))
abbrev M_X10_isText : fp_M := (yX10_isText, cX10_isText, 4, (some .boolean))
abbrev M_X10_lengthOf : fp_M := (yX10_lengthOf, cX10_lengthOf, 4, (some .int))
abbrev M_X3_init : fp_M := (yX3_init, cX3_init, 6, none)
abbrev M_Jx4a65c_add_9ea2d : fp_M := (yJx4a65c_add_9ea2d, cJx4a65c_add_9ea2d, 2, (some .boolean))
abbrev M_Jx4a65c_add_72be8 : fp_M := (yJx4a65c_add_72be8, cJx4a65c_add_72be8, 4, none)
abbrev M_Jx4a65c_grow_d5877 : fp_M := (yJx4a65c_grow_d5877, cJx4a65c_grow_d5877, 1, (some (.array (.object "java/lang/Object"))))
abbrev M_Jx4a65c_grow_92f84 : fp_M := (yJx4a65c_grow_92f84, cJx4a65c_grow_92f84, 4, (some (.array (.object "java/lang/Object"))))
abbrev M_J8_newLength_cabcc : fp_M := (yJ8_newLength_cabcc, cJ8_newLength_cabcc, 4, (some .int))
abbrev M_J8_hugeLength_7cf53 : fp_M := (yJ8_hugeLength_7cf53, cJ8_hugeLength_7cf53, 3, (some .int))
abbrev M_J7_copyOf_1904c : fp_M := (yJ7_copyOf_1904c, cJ7_copyOf_1904c, 2, (some (.array (.object "java/lang/Object"))))
abbrev M_J7_copyOf_6403c : fp_M := (yJ7_copyOf_6403c, cJ7_copyOf_6403c, 4, (some (.array (.object "java/lang/Object"))))
abbrev M_X10_encode : fp_M := (yX10_encode, cX10_encode, 4, (some .int))
abbrev M_X10_laneOf : fp_M := (yX10_laneOf, cX10_laneOf, 2, (some (.object "FieldPack$Lane")))
abbrev M_X9_left : fp_M := (yX9_left, cX9_left, 1, (some .int))
abbrev M_X2_makeSection : fp_M := (yX2_makeSection, cX2_makeSection, 5, (some (.object "FieldPack$Bytes")))
abbrev M_X2_isAtRisk : fp_M := (yX2_isAtRisk, cX2_isAtRisk, 3, (some .boolean))
abbrev M_Jx4a65c_get_915e3 : fp_M := (yJx4a65c_get_915e3, cJx4a65c_get_915e3, 2, (some (.object "java/lang/Object")))
abbrev M_J15_checkIndex_7cf53 : fp_M := (yJ15_checkIndex_7cf53, cJ15_checkIndex_7cf53, 2, (some .int))
abbrev M_J3_checkIndex_8e157 : fp_M := (yJ3_checkIndex_8e157, cJ3_checkIndex_8e157, 3, (some .int))
abbrev M_Jx4a65c_elementData_915e3 : fp_M := (yJx4a65c_elementData_915e3, cJx4a65c_elementData_915e3, 2, (some (.object "java/lang/Object")))
abbrev M_X2_streamsAtRisk : fp_M := (yX2_streamsAtRisk, cX2_streamsAtRisk, 3, (some .int))
abbrev M_X2_putField : fp_M := (yX2_putField, cX2_putField, 5, none)
abbrev M_X10_fixedNamed : fp_M := (yX10_fixedNamed, cX10_fixedNamed, 4, (some .int))
abbrev M_X10_fixedValue : fp_M := (yX10_fixedValue, cX10_fixedValue, 1, (some .long))
abbrev M_X0_putNumber : fp_M := (yX0_putNumber, cX0_putNumber, 7, none)
abbrev M_X0_put : fp_M := (yX0_put, cX0_put, 2, none)
abbrev M_J7_copyOf_59c91 : fp_M := (yJ7_copyOf_59c91, cJ7_copyOf_59c91, 3, (some (.array .int)))
abbrev M_X2_putLiteral : fp_M := (yX2_putLiteral, cX2_putLiteral, 5, none)
abbrev M_X8_lastNamed : fp_M := (yX8_lastNamed, cX8_lastNamed, 4, (some .int))
abbrev M_X8_nameAt : fp_M := (yX8_nameAt, cX8_nameAt, 2, (some .long))
abbrev M_X8_has : fp_M := (yX8_has, cX8_has, 2, (some .boolean))
abbrev M_X2_mayReferTo : fp_M := (yX2_mayReferTo, cX2_mayReferTo, 2, (some .boolean))
abbrev M_X2_putNameOf : fp_M := (yX2_putNameOf, cX2_putNameOf, 3, none)
abbrev M_X2_noteReference : fp_M := (yX2_noteReference, cX2_noteReference, 2, none)
abbrev M_X0_putText : fp_M := (yX0_putText, cX0_putText, 7, none)
abbrev M_X8_lastOf : fp_M := (yX8_lastOf, cX8_lastOf, 6, (some .int))
abbrev M_X8_valueAt : fp_M := (yX8_valueAt, cX8_valueAt, 2, (some .long))
abbrev M_X2_canInsert : fp_M := (yX2_canInsert, cX2_canInsert, 3, (some .boolean))
abbrev M_X10_sizeOf : fp_M := (yX10_sizeOf, cX10_sizeOf, 4, (some .int))
abbrev M_X8_firstBeside : fp_M := (yX8_firstBeside, cX8_firstBeside, 4, (some .int))
abbrev M_X2_firstBusy : fp_M := (yX2_firstBusy, cX2_firstBusy, 3, (some .int))
abbrev M_X2_insert : fp_M := (yX2_insert, cX2_insert, 5, none)
abbrev M_X8_insert : fp_M := (yX8_insert, cX8_insert, 8, none)
abbrev M_X2_putEntry : fp_M := (yX2_putEntry, cX2_putEntry, 2, none)
abbrev M_X5_init : fp_M := (yX5_init, cX5_init, 4, none)
abbrev M_X2_putFront : fp_M := (yX2_putFront, cX2_putFront, 3, none)
abbrev M_X0_putAll : fp_M := (yX0_putAll, cX0_putAll, 3, none)
abbrev M_X0_at : fp_M := (yX0_at, cX0_at, 2, (some .int))
abbrev M_Jx4a65c_clear_da8c8 : fp_M := (yJx4a65c_clear_da8c8, cJx4a65c_clear_da8c8, 4, none)
abbrev M_X10_move : fp_M := (yX10_move, cX10_move, 5, (some .int))
abbrev M_X9_bring : fp_M := (yX9_bring, cX9_bring, 3, (some .int))
abbrev M_X2_hear : fp_M := (yX2_hear, cX2_hear, 4, none)
abbrev M_X6_left : fp_M := (yX6_left, cX6_left, 1, (some .int))
abbrev M_X2_hearOne : fp_M := (yX2_hearOne, cX2_hearOne, 5, (some .boolean))
abbrev M_X6_front : fp_M := (yX6_front, cX6_front, 1, (some .int))
abbrev M_X6_takeNumber : fp_M := (yX6_takeNumber, cX6_takeNumber, 6, (some .int))
abbrev M_X6_take : fp_M := (yX6_take, cX6_take, 2, (some .int))
abbrev M_X6_rewind : fp_M := (yX6_rewind, cX6_rewind, 2, none)
abbrev M_X2_closeOldest : fp_M := (yX2_closeOldest, cX2_closeOldest, 3, none)
abbrev M_Jx4a65c_remove_915e3 : fp_M := (yJx4a65c_remove_915e3, cJx4a65c_remove_915e3, 4, (some (.object "java/lang/Object")))
abbrev M_Jx4a65c_fastRemove_b59b0 : fp_M := (yJx4a65c_fastRemove_b59b0, cJx4a65c_fastRemove_b59b0, 4, none)
abbrev M_X2_closeAll : fp_M := (yX2_closeAll, cX2_closeAll, 3, none)
abbrev M_X1_obey : fp_M := (yX1_obey, cX1_obey, 4, none)
abbrev M_X1_obeyOne : fp_M := (yX1_obeyOne, cX1_obeyOne, 7, (some .boolean))
abbrev M_X1_takeName : fp_M := (yX1_takeName, cX1_takeName, 3, (some .long))
abbrev M_X6_takeText : fp_M := (yX6_takeText, cX6_takeText, 6, (some .long))
abbrev M_X1_release : fp_M := (yX1_release, cX1_release, 5, none)
abbrev M_X1_readLines : fp_M := (yX1_readLines, cX1_readLines, 7, none)
abbrev M_X1_readLine : fp_M := (yX1_readLine, cX1_readLine, 8, (some (.object "FieldPack$Field")))
abbrev M_X1_fieldAt : fp_M := (yX1_fieldAt, cX1_fieldAt, 2, (some (.object "FieldPack$Field")))
abbrev M_X10_deliver : fp_M := (yX10_deliver, cX10_deliver, 3, (some .int))
abbrev M_Jx4a65c_isEmpty_aae02 : fp_M := (yJx4a65c_isEmpty_aae02, cJx4a65c_isEmpty_aae02, 1, (some .boolean))
abbrev M_X1_receive : fp_M := (yX1_receive, cX1_receive, 3, (some (.object "FieldPack$Section")))
abbrev M_X1_requiredBy : fp_M := (yX1_requiredBy, cX1_requiredBy, 4, (some .int))
abbrev M_J9_floorMod_7cf53 : fp_M := (yJ9_floorMod_7cf53, cJ9_floorMod_7cf53, 3, (some .int))
abbrev M_X7_init : fp_M := (yX7_init, cX7_init, 3, none)
abbrev M_X10_increment : fp_M := (yX10_increment, cX10_increment, 1, (some .int))
abbrev M_X1_tellCome : fp_M := (yX1_tellCome, cX1_tellCome, 3, (some .int))
abbrev M_X10_cancel : fp_M := (yX10_cancel, cX10_cancel, 4, (some .int))
abbrev M_X10_waiting : fp_M := (yX10_waiting, cX10_waiting, 3, (some .int))
abbrev M_X10_nextSection : fp_M := (yX10_nextSection, cX10_nextSection, 3, (some (.object "FieldPack$Bytes")))
abbrev M_X10_look : fp_M := (yX10_look, cX10_look, 4, (some .int))
abbrev M_X9_at : fp_M := (yX9_at, cX9_at, 2, (some .int))
abbrev M_X10_told : fp_M := (yX10_told, cX10_told, 4, (some .int))
abbrev M_X10_tableOf : fp_M := (yX10_tableOf, cX10_tableOf, 2, (some (.object "FieldPack$Table")))
abbrev M_X10_toldByEncoder : fp_M := (yX10_toldByEncoder, cX10_toldByEncoder, 2, (some .int))
abbrev M_X10_toldByDecoder : fp_M := (yX10_toldByDecoder, cX10_toldByDecoder, 6, (some .int))
abbrev M_X10_entry : fp_M := (yX10_entry, cX10_entry, 4, (some .long))
abbrev M_X10_sections : fp_M := (yX10_sections, cX10_sections, 3, (some .int))
abbrev M_X10_decoded : fp_M := (yX10_decoded, cX10_decoded, 7, (some .long))
abbrev M_L_cell : fp_M := (yL_cell, cL_cell, 2, (some .int))
abbrev M_X11_init : fp_M := (yX11_init, cX11_init, 3, none)
abbrev M_X11_field : fp_M := (yX11_field, cX11_field, 6, (some .int))
abbrev M_X11_isWhole : fp_M := (yX11_isWhole, cX11_isWhole, 4, (some .boolean))
abbrev M_X11_length : fp_M := (yX11_length, cX11_length, 4, (some .int))
abbrev M_X11_encode : fp_M := (yX11_encode, cX11_encode, 6, (some .int))
abbrev M_X11_lying : fp_M := (yX11_lying, cX11_lying, 5, (some .int))
abbrev M_X11_isAtRisk : fp_M := (yX11_isAtRisk, cX11_isAtRisk, 3, (some .boolean))
abbrev M_X11_atRisk : fp_M := (yX11_atRisk, cX11_atRisk, 3, (some .int))
abbrev M_X11_one : fp_M := (yX11_one, cX11_one, 12, none)
abbrev M_X11_fixedName : fp_M := (yX11_fixedName, cX11_fixedName, 2, (some .int))
abbrev M_X11_fixedValue : fp_M := (yX11_fixedValue, cX11_fixedValue, 1, (some .long))
abbrev M_X11_number : fp_M := (yX11_number, cX11_number, 7, none)
abbrev M_X11_lay : fp_M := (yX11_lay, cX11_lay, 3, none)
abbrev M_X11_last : fp_M := (yX11_last, cX11_last, 7, (some .int))
abbrev M_X11_whole : fp_M := (yX11_whole, cX11_whole, 3, none)
abbrev M_X11_refer : fp_M := (yX11_refer, cX11_refer, 2, none)
abbrev M_X11_sizeOf : fp_M := (yX11_sizeOf, cX11_sizeOf, 4, (some .int))
abbrev M_X11_mayInsert : fp_M := (yX11_mayInsert, cX11_mayInsert, 4, (some .boolean))
abbrev M_X11_isBusy : fp_M := (yX11_isBusy, cX11_isBusy, 5, (some .boolean))
abbrev M_X11_insert : fp_M := (yX11_insert, cX11_insert, 8, none)
abbrev M_X11_text : fp_M := (yX11_text, cX11_text, 7, none)
abbrev M_X11_move : fp_M := (yX11_move, cX11_move, 5, (some .int))
abbrev M_X11_hear : fp_M := (yX11_hear, cX11_hear, 5, none)
abbrev M_X11_goOn : fp_M := (yX11_goOn, cX11_goOn, 3, none)
abbrev M_X11_decode : fp_M := (yX11_decode, cX11_decode, 2, none)
abbrev M_X11_tell : fp_M := (yX11_tell, cX11_tell, 3, none)
abbrev M_X11_deliver : fp_M := (yX11_deliver, cX11_deliver, 3, (some .int))
abbrev M_X11_next : fp_M := (yX11_next, cX11_next, 3, (some .int))
abbrev M_X11_increment : fp_M := (yX11_increment, cX11_increment, 2, (some .int))
abbrev M_X11_cancel : fp_M := (yX11_cancel, cX11_cancel, 4, (some .int))
abbrev M_X11_waiting : fp_M := (yX11_waiting, cX11_waiting, 3, (some .int))
abbrev M_X11_look : fp_M := (yX11_look, cX11_look, 4, (some .int))
abbrev M_X11_told : fp_M := (yX11_told, cX11_told, 3, (some .int))
abbrev M_X11_opens : fp_M := (yX11_opens, cX11_opens, 3, (some .int))
abbrev M_X11_waits : fp_M := (yX11_waits, cX11_waits, 5, (some .int))
abbrev M_X11_entry : fp_M := (yX11_entry, cX11_entry, 5, (some .long))
abbrev M_X11_sections : fp_M := (yX11_sections, cX11_sections, 2, (some .int))
abbrev M_X11_decoded : fp_M := (yX11_decoded, cX11_decoded, 8, (some .long))
theorem wl_Jx4a65c : ∀ w ∈ u_ws RJx4a65c TJx4a65c 3, w ∈ fp_tw := by
  intro w hw
  refine List.mem_filter.mpr ⟨?_, ?_⟩
  · revert w; decide +kernel
  · revert w; decide +kernel
theorem cl_Jx4a65c : fp_cl 0 RJx4a65c TJx4a65c 3 tyJx4a65c := ⟨rfl, wl_Jx4a65c, tyJx4a65c_ok, nmJx4a65c⟩
theorem wl_X0 : ∀ w ∈ u_ws RX0 TX0 2, w ∈ fp_tw := by
  intro w hw
  refine List.mem_filter.mpr ⟨?_, ?_⟩
  · revert w; decide +kernel
  · revert w; decide +kernel
theorem cl_X0 : fp_cl 1 RX0 TX0 2 tyX0 := ⟨rfl, wl_X0, tyX0_ok, nmX0⟩
theorem wl_X1 : ∀ w ∈ u_ws RX1 TX1 2, w ∈ fp_tw := by
  intro w hw
  refine List.mem_filter.mpr ⟨?_, ?_⟩
  · revert w; decide +kernel
  · revert w; decide +kernel
theorem cl_X1 : fp_cl 2 RX1 TX1 2 tyX1 := ⟨rfl, wl_X1, tyX1_ok, nmX1⟩
theorem wl_X2 : ∀ w ∈ u_ws RX2 TX2 9, w ∈ fp_tw := by
  intro w hw
  refine List.mem_filter.mpr ⟨?_, ?_⟩
  · revert w; decide +kernel
  · revert w; decide +kernel
theorem cl_X2 : fp_cl 3 RX2 TX2 9 tyX2 := ⟨rfl, wl_X2, tyX2_ok, nmX2⟩
theorem wl_X3 : ∀ w ∈ u_ws RX3 TX3 3, w ∈ fp_tw := by
  intro w hw
  refine List.mem_filter.mpr ⟨?_, ?_⟩
  · revert w; decide +kernel
  · revert w; decide +kernel
theorem cl_X3 : fp_cl 4 RX3 TX3 3 tyX3 := ⟨rfl, wl_X3, tyX3_ok, nmX3⟩
theorem wl_X4 : ∀ w ∈ u_ws RX4 TX4 5, w ∈ fp_tw := by
  intro w hw
  refine List.mem_filter.mpr ⟨?_, ?_⟩
  · revert w; decide +kernel
  · revert w; decide +kernel
theorem cl_X4 : fp_cl 5 RX4 TX4 5 tyX4 := ⟨rfl, wl_X4, tyX4_ok, nmX4⟩
theorem wl_X5 : ∀ w ∈ u_ws RX5 TX5 3, w ∈ fp_tw := by
  intro w hw
  refine List.mem_filter.mpr ⟨?_, ?_⟩
  · revert w; decide +kernel
  · revert w; decide +kernel
theorem cl_X5 : fp_cl 6 RX5 TX5 3 tyX5 := ⟨rfl, wl_X5, tyX5_ok, nmX5⟩
theorem wl_X6 : ∀ w ∈ u_ws RX6 TX6 4, w ∈ fp_tw := by
  intro w hw
  refine List.mem_filter.mpr ⟨?_, ?_⟩
  · revert w; decide +kernel
  · revert w; decide +kernel
theorem cl_X6 : fp_cl 7 RX6 TX6 4 tyX6 := ⟨rfl, wl_X6, tyX6_ok, nmX6⟩
theorem wl_X7 : ∀ w ∈ u_ws RX7 TX7 3, w ∈ fp_tw := by
  intro w hw
  refine List.mem_filter.mpr ⟨?_, ?_⟩
  · revert w; decide +kernel
  · revert w; decide +kernel
theorem cl_X7 : fp_cl 8 RX7 TX7 3 tyX7 := ⟨rfl, wl_X7, tyX7_ok, nmX7⟩
theorem wl_X8 : ∀ w ∈ u_ws RX8 TX8 7, w ∈ fp_tw := by
  intro w hw
  refine List.mem_filter.mpr ⟨?_, ?_⟩
  · revert w; decide +kernel
  · revert w; decide +kernel
theorem cl_X8 : fp_cl 9 RX8 TX8 7 tyX8 := ⟨rfl, wl_X8, tyX8_ok, nmX8⟩
theorem wl_X9 : ∀ w ∈ u_ws RX9 TX9 2, w ∈ fp_tw := by
  intro w hw
  refine List.mem_filter.mpr ⟨?_, ?_⟩
  · revert w; decide +kernel
  · revert w; decide +kernel
theorem cl_X9 : fp_cl 10 RX9 TX9 2 tyX9 := ⟨rfl, wl_X9, tyX9_ok, nmX9⟩
theorem wl_X10 : ∀ w ∈ u_ws RX10 TX10 7, w ∈ fp_tw := by
  intro w hw
  refine List.mem_filter.mpr ⟨?_, ?_⟩
  · revert w; decide +kernel
  · revert w; decide +kernel
theorem cl_X10 : fp_cl 11 RX10 TX10 7 tyX10 := ⟨rfl, wl_X10, tyX10_ok, nmX10⟩
theorem wl_X11 : ∀ w ∈ u_ws RX11 TX11 46, w ∈ fp_tw := by
  intro w hw
  refine List.mem_filter.mpr ⟨?_, ?_⟩
  · revert w; decide +kernel
  · revert w; decide +kernel
theorem cl_X11 : fp_cl 12 RX11 TX11 46 tyX11 := ⟨rfl, wl_X11, tyX11_ok, nmX11⟩
theorem pn_J10 : plainName RJ10 = true := by decide +kernel
theorem pn_J15 : plainName RJ15 = true := by decide +kernel
theorem pn_J3 : plainName RJ3 = true := by decide +kernel
theorem pn_J7 : plainName RJ7 = true := by decide +kernel
theorem pn_J8 : plainName RJ8 = true := by decide +kernel
theorem pn_Jx145de : plainName RJx145de = true := by decide +kernel
theorem pn_Jx4a65c : plainName RJx4a65c = true := by decide +kernel
theorem pn_Jx5ef63 : plainName RJx5ef63 = true := by decide +kernel
theorem pn_Jx8e188 : plainName RJx8e188 = true := by decide +kernel
theorem pn_Jxa1e45 : plainName RJxa1e45 = true := by decide +kernel
theorem pn_Jxa66e6 : plainName RJxa66e6 = true := by decide +kernel
theorem pn_Jxab1ab : plainName RJxab1ab = true := by decide +kernel
theorem pn_Jxbd725 : plainName RJxbd725 = true := by decide +kernel
theorem pn_Jxc12de : plainName RJxc12de = true := by decide +kernel
theorem pn_Jxf0a74 : plainName RJxf0a74 = true := by decide +kernel
theorem pn_L : plainName RL = true := by decide +kernel
theorem pn_X0 : plainName RX0 = true := by decide +kernel
theorem pn_X1 : plainName RX1 = true := by decide +kernel
theorem pn_X10 : plainName RX10 = true := by decide +kernel
theorem pn_X11 : plainName RX11 = true := by decide +kernel
theorem pn_X2 : plainName RX2 = true := by decide +kernel
theorem pn_X3 : plainName RX3 = true := by decide +kernel
theorem pn_X4 : plainName RX4 = true := by decide +kernel
theorem pn_X5 : plainName RX5 = true := by decide +kernel
theorem pn_X6 : plainName RX6 = true := by decide +kernel
theorem pn_X7 : plainName RX7 = true := by decide +kernel
theorem pn_X8 : plainName RX8 = true := by decide +kernel
theorem pn_X9 : plainName RX9 = true := by decide +kernel
set_option maxRecDepth 100000 in
theorem nw_X10_18 : fp_nw RX10 18 10 2 [.null, .null] := ⟨_, _, _, cl_X9, tw_i 65 (by rfl) rfl, tw_i 66 (by rfl) rfl, tw_i 32 (by rfl) rfl, by decide +kernel⟩
set_option maxRecDepth 100000 in
theorem fl_X10_21 : fp_fl RX10 21 11 0 := ⟨_, _, _, _, RX10, cl_X10, by decide, tw_i 274 (by rfl) rfl, Or.inl rfl⟩
set_option maxRecDepth 100000 in
theorem fs_X10_21 : fp_fs RX10 "<init>" 21 11 0 (tyX10 0) := ⟨_, _, _, _, RX10, cl_X10, by decide, tw_i 274 (by rfl) rfl, Or.inl rfl, rfl, Or.inr ⟨rfl, rfl, rfl⟩⟩
set_option maxRecDepth 100000 in
theorem fl_X10_25 : fp_fl RX10 25 11 1 := ⟨_, _, _, _, RX10, cl_X10, by decide, tw_i 275 (by rfl) rfl, Or.inl rfl⟩
set_option maxRecDepth 100000 in
theorem fs_X10_25 : fp_fs RX10 "<init>" 25 11 1 (tyX10 1) := ⟨_, _, _, _, RX10, cl_X10, by decide, tw_i 275 (by rfl) rfl, Or.inl rfl, rfl, Or.inr ⟨rfl, rfl, rfl⟩⟩
set_option maxRecDepth 100000 in
theorem nw_X10_28 : fp_nw RX10 28 3 9 [.null, .int 0, .null, .int 0, .null, .int 0, .int 0, .int 0, .int 0] := ⟨_, _, _, cl_X2, tw_i 124 (by rfl) rfl, tw_i 125 (by rfl) rfl, tw_i 35 (by rfl) rfl, by decide +kernel⟩
set_option maxRecDepth 100000 in
theorem fl_X10_33 : fp_fl RX10 33 11 2 := ⟨_, _, _, _, RX10, cl_X10, by decide, tw_i 276 (by rfl) rfl, Or.inl rfl⟩
set_option maxRecDepth 100000 in
theorem fs_X10_33 : fp_fs RX10 "<init>" 33 11 2 (tyX10 2) := ⟨_, _, _, _, RX10, cl_X10, by decide, tw_i 276 (by rfl) rfl, Or.inl rfl, rfl, Or.inr ⟨rfl, rfl, rfl⟩⟩
set_option maxRecDepth 100000 in
theorem nw_X10_37 : fp_nw RX10 37 2 2 [.null, .int 0] := ⟨_, _, _, cl_X1, tw_i 225 (by rfl) rfl, tw_i 226 (by rfl) rfl, tw_i 40 (by rfl) rfl, by decide +kernel⟩
set_option maxRecDepth 100000 in
theorem fl_X10_42 : fp_fl RX10 42 11 3 := ⟨_, _, _, _, RX10, cl_X10, by decide, tw_i 277 (by rfl) rfl, Or.inl rfl⟩
set_option maxRecDepth 100000 in
theorem fs_X10_42 : fp_fs RX10 "<init>" 42 11 3 (tyX10 3) := ⟨_, _, _, _, RX10, cl_X10, by decide, tw_i 277 (by rfl) rfl, Or.inl rfl, rfl, Or.inr ⟨rfl, rfl, rfl⟩⟩
set_option maxRecDepth 100000 in
theorem nw_X10_46 : fp_nw RX10 46 5 5 [.int 0, .null, .null, .null, .int 0] := ⟨_, _, _, cl_X4, tw_i 241 (by rfl) rfl, tw_i 243 (by rfl) rfl, tw_i 41 (by rfl) rfl, by decide +kernel⟩
set_option maxRecDepth 100000 in
theorem ck_X10_46 : Cond.classLink RX10 46 RX4 ∈ fp_tw := tw_i 241 (by rfl) rfl
set_option maxRecDepth 100000 in
theorem fl_X10_48 : fp_fl RX10 48 11 4 := ⟨_, _, _, _, RX10, cl_X10, by decide, tw_i 278 (by rfl) rfl, Or.inl rfl⟩
set_option maxRecDepth 100000 in
theorem fs_X10_48 : fp_fs RX10 "<init>" 48 11 4 (tyX10 4) := ⟨_, _, _, _, RX10, cl_X10, by decide, tw_i 278 (by rfl) rfl, Or.inl rfl, rfl, Or.inr ⟨rfl, rfl, rfl⟩⟩
set_option maxRecDepth 100000 in
theorem nw_X10_53 : fp_nw RX10 53 0 3 [.int 0, .null, .int 0] := ⟨_, _, _, cl_Jx4a65c, tw_i 272 (by rfl) rfl, tw_i 167 (by rfl) rfl, tw_i 39 (by rfl) rfl, by decide +kernel⟩
set_option maxRecDepth 100000 in
theorem fl_X10_56 : fp_fl RX10 56 11 5 := ⟨_, _, _, _, RX10, cl_X10, by decide, tw_i 279 (by rfl) rfl, Or.inl rfl⟩
set_option maxRecDepth 100000 in
theorem fs_X10_56 : fp_fs RX10 "<init>" 56 11 5 (tyX10 5) := ⟨_, _, _, _, RX10, cl_X10, by decide, tw_i 279 (by rfl) rfl, Or.inl rfl, rfl, Or.inr ⟨rfl, rfl, rfl⟩⟩
set_option maxRecDepth 100000 in
theorem nw_X10_68 : fp_nw RX10 68 4 3 [.long 0, .long 0, .int 0] := ⟨_, _, _, cl_X3, tw_i 311 (by rfl) rfl, tw_i 312 (by rfl) rfl, tw_i 43 (by rfl) rfl, by decide +kernel⟩
set_option maxRecDepth 100000 in
theorem ck_X10_68 : Cond.classLink RX10 68 RX3 ∈ fp_tw := tw_i 311 (by rfl) rfl
set_option maxRecDepth 100000 in
theorem fl_X10_81 : fp_fl RX10 81 5 4 := ⟨_, _, _, _, RX4, cl_X4, by decide, tw_i 260 (by rfl) rfl, Or.inl rfl⟩
set_option maxRecDepth 100000 in
theorem fs_X10_81 (nm : String) : fp_fs RX10 nm 81 5 4 (tyX4 4) := ⟨_, _, _, _, RX4, cl_X4, by decide, tw_i 260 (by rfl) rfl, Or.inl rfl, rfl, Or.inl rfl⟩
set_option maxRecDepth 100000 in
theorem fl_X10_85 : fp_fl RX10 85 5 1 := ⟨_, _, _, _, RX4, cl_X4, by decide, tw_i 253 (by rfl) rfl, Or.inl rfl⟩
set_option maxRecDepth 100000 in
theorem fl_X10_88 : fp_fl RX10 88 11 6 := ⟨_, _, _, _, RX10, cl_X10, by decide, tw_i 280 (by rfl) rfl, Or.inl rfl⟩
set_option maxRecDepth 100000 in
theorem fs_X10_88 (nm : String) : fp_fs RX10 nm 88 11 6 (tyX10 6) := ⟨_, _, _, _, RX10, cl_X10, by decide, tw_i 280 (by rfl) rfl, Or.inl rfl, rfl, Or.inl rfl⟩
set_option maxRecDepth 100000 in
theorem fl_X10_95 : fp_fl RX10 95 10 0 := ⟨_, _, _, _, RX9, cl_X9, by decide, tw_i 116 (by rfl) rfl, Or.inl rfl⟩
set_option maxRecDepth 100000 in
theorem fl_X10_106 : fp_fl RX10 106 1 1 := ⟨_, _, _, _, RX0, cl_X0, by decide, tw_i 83 (by rfl) rfl, Or.inl rfl⟩
set_option maxRecDepth 100000 in
theorem ck_X10_107 : Cond.classLink RX10 107 RX0 ∈ fp_tw := tw_i 687 (by rfl) rfl
set_option maxRecDepth 100000 in
theorem fl_X10_114 : fp_fl RX10 114 10 1 := ⟨_, _, _, _, RX9, cl_X9, by decide, tw_i 118 (by rfl) rfl, Or.inl rfl⟩
set_option maxRecDepth 100000 in
theorem fl_X10_133 : fp_fl RX10 133 5 2 := ⟨_, _, _, _, RX4, cl_X4, by decide, tw_i 255 (by rfl) rfl, Or.inl rfl⟩
set_option maxRecDepth 100000 in
theorem fl_X10_164 : fp_fl RX10 164 9 5 := ⟨_, _, _, _, RX8, cl_X8, by decide, tw_i 147 (by rfl) rfl, Or.inl rfl⟩
set_option maxRecDepth 100000 in
theorem fl_X10_169 : fp_fl RX10 169 9 4 := ⟨_, _, _, _, RX8, cl_X8, by decide, tw_i 143 (by rfl) rfl, Or.inl rfl⟩
set_option maxRecDepth 100000 in
theorem fl_X10_172 : fp_fl RX10 172 9 6 := ⟨_, _, _, _, RX8, cl_X8, by decide, tw_i 149 (by rfl) rfl, Or.inl rfl⟩
set_option maxRecDepth 100000 in
theorem kc_X10_179 : Cond.constantLong RX10 179 (-1) ∈ fp_tw := tw_i 775 (by rfl) rfl
set_option maxRecDepth 100000 in
theorem fl_X10_188 : fp_fl RX10 188 5 3 := ⟨_, _, _, _, RX4, cl_X4, by decide, tw_i 259 (by rfl) rfl, Or.inl rfl⟩
set_option maxRecDepth 100000 in
theorem ck_X10_194 : Cond.classLink RX10 194 RX7 ∈ fp_tw := tw_i 786 (by rfl) rfl
set_option maxRecDepth 100000 in
theorem fl_X10_196 : fp_fl RX10 196 8 2 := ⟨_, _, _, _, RX7, cl_X7, by decide, tw_i 714 (by rfl) rfl, Or.inl rfl⟩
set_option maxRecDepth 100000 in
theorem fl_X10_199 : fp_fl RX10 199 4 0 := ⟨_, _, _, _, RX3, cl_X3, by decide, tw_i 319 (by rfl) rfl, Or.inl rfl⟩
set_option maxRecDepth 100000 in
theorem fl_X10_203 : fp_fl RX10 203 4 1 := ⟨_, _, _, _, RX3, cl_X3, by decide, tw_i 322 (by rfl) rfl, Or.inl rfl⟩
set_option maxRecDepth 100000 in
theorem fl_X10_206 : fp_fl RX10 206 4 2 := ⟨_, _, _, _, RX3, cl_X3, by decide, tw_i 325 (by rfl) rfl, Or.inl rfl⟩
set_option maxRecDepth 100000 in
theorem fl_X10_209 : fp_fl RX10 209 3 0 := ⟨_, _, _, _, RX2, cl_X2, by decide, tw_i 195 (by rfl) rfl, Or.inl rfl⟩
set_option maxRecDepth 100000 in
theorem fl_X10_213 : fp_fl RX10 213 2 0 := ⟨_, _, _, _, RX1, cl_X1, by decide, tw_i 234 (by rfl) rfl, Or.inl rfl⟩
set_option maxRecDepth 100000 in
theorem fl_X10_214 : fp_fl RX10 214 3 3 := ⟨_, _, _, _, RX2, cl_X2, by decide, tw_i 200 (by rfl) rfl, Or.inl rfl⟩
set_option maxRecDepth 100000 in
theorem fl_X10_217 : fp_fl RX10 217 3 2 := ⟨_, _, _, _, RX2, cl_X2, by decide, tw_i 198 (by rfl) rfl, Or.inl rfl⟩
set_option maxRecDepth 100000 in
theorem kc_X10_227 : Cond.constantLong RX10 227 (255) ∈ fp_tw := tw_i 310 (by rfl) rfl
set_option maxRecDepth 100000 in
theorem kc_X10_229 : Cond.constantLong RX10 229 (97) ∈ fp_tw := tw_i 438 (by rfl) rfl
set_option maxRecDepth 100000 in
theorem kc_X10_231 : Cond.constantLong RX10 231 (8) ∈ fp_tw := tw_i 439 (by rfl) rfl
set_option maxRecDepth 100000 in
theorem kc_X10_233 : Cond.constantLong RX10 233 (49) ∈ fp_tw := tw_i 443 (by rfl) rfl
set_option maxRecDepth 100000 in
theorem fl_X0_15 : fp_fl RX0 15 1 0 := ⟨_, _, _, _, RX0, cl_X0, by decide, tw_i 78 (by rfl) rfl, Or.inl rfl⟩
set_option maxRecDepth 100000 in
theorem fs_X0_15 (nm : String) : fp_fs RX0 nm 15 1 0 (tyX0 0) := ⟨_, _, _, _, RX0, cl_X0, by decide, tw_i 78 (by rfl) rfl, Or.inl rfl, rfl, Or.inl rfl⟩
set_option maxRecDepth 100000 in
theorem fl_X0_21 : fp_fl RX0 21 1 1 := ⟨_, _, _, _, RX0, cl_X0, by decide, tw_i 82 (by rfl) rfl, Or.inl rfl⟩
set_option maxRecDepth 100000 in
theorem fs_X0_21 (nm : String) : fp_fs RX0 nm 21 1 1 (tyX0 1) := ⟨_, _, _, _, RX0, cl_X0, by decide, tw_i 82 (by rfl) rfl, Or.inl rfl, rfl, Or.inl rfl⟩
set_option maxRecDepth 100000 in
theorem kc_X0_43 : Cond.constantLong RX0 43 (255) ∈ fp_tw := tw_i 499 (by rfl) rfl
set_option maxRecDepth 100000 in
theorem nw_X1_9 : fp_nw RX1 9 9 7 [.int 0, .null, .null, .null, .int 0, .int 0, .int 0] := ⟨_, _, _, cl_X8, tw_i 231 (by rfl) rfl, tw_i 131 (by rfl) rfl, tw_i 36 (by rfl) rfl, by decide +kernel⟩
set_option maxRecDepth 100000 in
theorem fl_X1_14 : fp_fl RX1 14 2 0 := ⟨_, _, _, _, RX1, cl_X1, by decide, tw_i 233 (by rfl) rfl, Or.inl rfl⟩
set_option maxRecDepth 100000 in
theorem fs_X1_14 : fp_fs RX1 "<init>" 14 2 0 (tyX1 0) := ⟨_, _, _, _, RX1, cl_X1, by decide, tw_i 233 (by rfl) rfl, Or.inl rfl, rfl, Or.inr ⟨rfl, rfl, rfl⟩⟩
set_option maxRecDepth 100000 in
theorem nw_X1_21 : fp_nw RX1 21 7 4 [.null, .int 0, .int 0, .int 0] := ⟨_, _, _, cl_X6, tw_i 692 (by rfl) rfl, tw_i 92 (by rfl) rfl, tw_i 34 (by rfl) rfl, by decide +kernel⟩
set_option maxRecDepth 100000 in
theorem fl_X1_30 : fp_fl RX1 30 7 1 := ⟨_, _, _, _, RX6, cl_X6, by decide, tw_i 99 (by rfl) rfl, Or.inl rfl⟩
set_option maxRecDepth 100000 in
theorem fl_X1_42 : fp_fl RX1 42 7 3 := ⟨_, _, _, _, RX6, cl_X6, by decide, tw_i 104 (by rfl) rfl, Or.inl rfl⟩
set_option maxRecDepth 100000 in
theorem fl_X1_60 : fp_fl RX1 60 9 5 := ⟨_, _, _, _, RX8, cl_X8, by decide, tw_i 146 (by rfl) rfl, Or.inl rfl⟩
set_option maxRecDepth 100000 in
theorem fl_X1_66 : fp_fl RX1 66 1 1 := ⟨_, _, _, _, RX0, cl_X0, by decide, tw_i 84 (by rfl) rfl, Or.inl rfl⟩
set_option maxRecDepth 100000 in
theorem nw_X1_74 : fp_nw RX1 74 8 3 [.null, .int 0, .null] := ⟨_, _, _, cl_X7, tw_i 657 (by rfl) rfl, tw_i 694 (by rfl) rfl, tw_i 50 (by rfl) rfl, by decide +kernel⟩
set_option maxRecDepth 100000 in
theorem ck_X1_74 : Cond.classLink RX1 74 RX7 ∈ fp_tw := tw_i 657 (by rfl) rfl
set_option maxRecDepth 100000 in
theorem fl_X1_82 : fp_fl RX1 82 9 0 := ⟨_, _, _, _, RX8, cl_X8, by decide, tw_i 138 (by rfl) rfl, Or.inl rfl⟩
set_option maxRecDepth 100000 in
theorem fl_X1_91 : fp_fl RX1 91 5 2 := ⟨_, _, _, _, RX4, cl_X4, by decide, tw_i 256 (by rfl) rfl, Or.inl rfl⟩
set_option maxRecDepth 100000 in
theorem fl_X1_105 : fp_fl RX1 105 8 1 := ⟨_, _, _, _, RX7, cl_X7, by decide, tw_i 711 (by rfl) rfl, Or.inl rfl⟩
set_option maxRecDepth 100000 in
theorem fl_X1_115 : fp_fl RX1 115 5 3 := ⟨_, _, _, _, RX4, cl_X4, by decide, tw_i 258 (by rfl) rfl, Or.inl rfl⟩
set_option maxRecDepth 100000 in
theorem fl_X1_122 : fp_fl RX1 122 5 0 := ⟨_, _, _, _, RX4, cl_X4, by decide, tw_i 251 (by rfl) rfl, Or.inl rfl⟩
set_option maxRecDepth 100000 in
theorem fl_X1_129 : fp_fl RX1 129 2 1 := ⟨_, _, _, _, RX1, cl_X1, by decide, tw_i 235 (by rfl) rfl, Or.inl rfl⟩
set_option maxRecDepth 100000 in
theorem fs_X1_129 (nm : String) : fp_fs RX1 nm 129 2 1 (tyX1 1) := ⟨_, _, _, _, RX1, cl_X1, by decide, tw_i 235 (by rfl) rfl, Or.inl rfl, rfl, Or.inl rfl⟩
set_option maxRecDepth 100000 in
theorem fl_X1_135 : fp_fl RX1 135 8 0 := ⟨_, _, _, _, RX7, cl_X7, by decide, tw_i 709 (by rfl) rfl, Or.inl rfl⟩
set_option maxRecDepth 100000 in
theorem fl_X1_139 : fp_fl RX1 139 8 2 := ⟨_, _, _, _, RX7, cl_X7, by decide, tw_i 713 (by rfl) rfl, Or.inl rfl⟩
set_option maxRecDepth 100000 in
theorem nw_X1_146 : fp_nw RX1 146 4 3 [.long 0, .long 0, .int 0] := ⟨_, _, _, cl_X3, tw_i 667 (by rfl) rfl, tw_i 312 (by rfl) rfl, tw_i 43 (by rfl) rfl, by decide +kernel⟩
set_option maxRecDepth 100000 in
theorem nw_X2_9 : fp_nw RX2 9 9 7 [.int 0, .null, .null, .null, .int 0, .int 0, .int 0] := ⟨_, _, _, cl_X8, tw_i 130 (by rfl) rfl, tw_i 131 (by rfl) rfl, tw_i 36 (by rfl) rfl, by decide +kernel⟩
set_option maxRecDepth 100000 in
theorem fl_X2_14 : fp_fl RX2 14 3 0 := ⟨_, _, _, _, RX2, cl_X2, by decide, tw_i 194 (by rfl) rfl, Or.inl rfl⟩
set_option maxRecDepth 100000 in
theorem fs_X2_14 : fp_fs RX2 "<init>" 14 3 0 (tyX2 0) := ⟨_, _, _, _, RX2, cl_X2, by decide, tw_i 194 (by rfl) rfl, Or.inl rfl, rfl, Or.inr ⟨rfl, rfl, rfl⟩⟩
set_option maxRecDepth 100000 in
theorem fl_X2_20 : fp_fl RX2 20 3 1 := ⟨_, _, _, _, RX2, cl_X2, by decide, tw_i 196 (by rfl) rfl, Or.inl rfl⟩
set_option maxRecDepth 100000 in
theorem fs_X2_20 : fp_fs RX2 "<init>" 20 3 1 (tyX2 1) := ⟨_, _, _, _, RX2, cl_X2, by decide, tw_i 196 (by rfl) rfl, Or.inl rfl, rfl, Or.inr ⟨rfl, rfl, rfl⟩⟩
set_option maxRecDepth 100000 in
theorem nw_X2_24 : fp_nw RX2 24 0 3 [.int 0, .null, .int 0] := ⟨_, _, _, cl_Jx4a65c, tw_i 166 (by rfl) rfl, tw_i 167 (by rfl) rfl, tw_i 39 (by rfl) rfl, by decide +kernel⟩
set_option maxRecDepth 100000 in
theorem fl_X2_27 : fp_fl RX2 27 3 2 := ⟨_, _, _, _, RX2, cl_X2, by decide, tw_i 197 (by rfl) rfl, Or.inl rfl⟩
set_option maxRecDepth 100000 in
theorem fs_X2_27 : fp_fs RX2 "<init>" 27 3 2 (tyX2 2) := ⟨_, _, _, _, RX2, cl_X2, by decide, tw_i 197 (by rfl) rfl, Or.inl rfl, rfl, Or.inr ⟨rfl, rfl, rfl⟩⟩
set_option maxRecDepth 100000 in
theorem nw_X2_31 : fp_nw RX2 31 1 2 [.null, .int 0] := ⟨_, _, _, cl_X0, tw_i 192 (by rfl) rfl, tw_i 72 (by rfl) rfl, tw_i 33 (by rfl) rfl, by decide +kernel⟩
set_option maxRecDepth 100000 in
theorem fl_X2_34 : fp_fl RX2 34 3 4 := ⟨_, _, _, _, RX2, cl_X2, by decide, tw_i 201 (by rfl) rfl, Or.inl rfl⟩
set_option maxRecDepth 100000 in
theorem fs_X2_34 : fp_fs RX2 "<init>" 34 3 4 (tyX2 4) := ⟨_, _, _, _, RX2, cl_X2, by decide, tw_i 201 (by rfl) rfl, Or.inl rfl, rfl, Or.inr ⟨rfl, rfl, rfl⟩⟩
set_option maxRecDepth 100000 in
theorem fl_X2_38 : fp_fl RX2 38 1 1 := ⟨_, _, _, _, RX0, cl_X0, by decide, tw_i 81 (by rfl) rfl, Or.inl rfl⟩
set_option maxRecDepth 100000 in
theorem fs_X2_38 (nm : String) : fp_fs RX2 nm 38 1 1 (tyX0 1) := ⟨_, _, _, _, RX0, cl_X0, by decide, tw_i 81 (by rfl) rfl, Or.inl rfl, rfl, Or.inl rfl⟩
set_option maxRecDepth 100000 in
theorem fl_X2_41 : fp_fl RX2 41 9 5 := ⟨_, _, _, _, RX8, cl_X8, by decide, tw_i 145 (by rfl) rfl, Or.inl rfl⟩
set_option maxRecDepth 100000 in
theorem fl_X2_44 : fp_fl RX2 44 3 5 := ⟨_, _, _, _, RX2, cl_X2, by decide, tw_i 202 (by rfl) rfl, Or.inl rfl⟩
set_option maxRecDepth 100000 in
theorem fs_X2_44 (nm : String) : fp_fs RX2 nm 44 3 5 (tyX2 5) := ⟨_, _, _, _, RX2, cl_X2, by decide, tw_i 202 (by rfl) rfl, Or.inl rfl, rfl, Or.inl rfl⟩
set_option maxRecDepth 100000 in
theorem fl_X2_47 : fp_fl RX2 47 3 6 := ⟨_, _, _, _, RX2, cl_X2, by decide, tw_i 203 (by rfl) rfl, Or.inl rfl⟩
set_option maxRecDepth 100000 in
theorem fs_X2_47 (nm : String) : fp_fs RX2 nm 47 3 6 (tyX2 6) := ⟨_, _, _, _, RX2, cl_X2, by decide, tw_i 203 (by rfl) rfl, Or.inl rfl, rfl, Or.inl rfl⟩
set_option maxRecDepth 100000 in
theorem kc_X2_50 : Cond.constant RX2 50 (1073741824) ∈ fp_tw := tw_i 405 (by rfl) rfl
set_option maxRecDepth 100000 in
theorem fl_X2_51 : fp_fl RX2 51 3 7 := ⟨_, _, _, _, RX2, cl_X2, by decide, tw_i 204 (by rfl) rfl, Or.inl rfl⟩
set_option maxRecDepth 100000 in
theorem fs_X2_51 (nm : String) : fp_fs RX2 nm 51 3 7 (tyX2 7) := ⟨_, _, _, _, RX2, cl_X2, by decide, tw_i 204 (by rfl) rfl, Or.inl rfl, rfl, Or.inl rfl⟩
set_option maxRecDepth 100000 in
theorem fl_X2_62 : fp_fl RX2 62 3 8 := ⟨_, _, _, _, RX2, cl_X2, by decide, tw_i 205 (by rfl) rfl, Or.inl rfl⟩
set_option maxRecDepth 100000 in
theorem fs_X2_62 (nm : String) : fp_fs RX2 nm 62 3 8 (tyX2 8) := ⟨_, _, _, _, RX2, cl_X2, by decide, tw_i 205 (by rfl) rfl, Or.inl rfl, rfl, Or.inl rfl⟩
set_option maxRecDepth 100000 in
theorem ck_X2_72 : Cond.classLink RX2 72 RX3 ∈ fp_tw := tw_i 430 (by rfl) rfl
set_option maxRecDepth 100000 in
theorem nw_X2_78 : fp_nw RX2 78 6 3 [.int 0, .int 0, .int 0] := ⟨_, _, _, cl_X5, tw_i 425 (by rfl) rfl, tw_i 537 (by rfl) rfl, tw_i 49 (by rfl) rfl, by decide +kernel⟩
set_option maxRecDepth 100000 in
theorem ck_X2_78 : Cond.classLink RX2 78 RX5 ∈ fp_tw := tw_i 425 (by rfl) rfl
set_option maxRecDepth 100000 in
theorem fl_X2_94 : fp_fl RX2 94 9 0 := ⟨_, _, _, _, RX8, cl_X8, by decide, tw_i 137 (by rfl) rfl, Or.inl rfl⟩
set_option maxRecDepth 100000 in
theorem fl_X2_100 : fp_fl RX2 100 4 0 := ⟨_, _, _, _, RX3, cl_X3, by decide, tw_i 318 (by rfl) rfl, Or.inl rfl⟩
set_option maxRecDepth 100000 in
theorem fl_X2_112 : fp_fl RX2 112 4 1 := ⟨_, _, _, _, RX3, cl_X3, by decide, tw_i 321 (by rfl) rfl, Or.inl rfl⟩
set_option maxRecDepth 100000 in
theorem fl_X2_115 : fp_fl RX2 115 4 2 := ⟨_, _, _, _, RX3, cl_X3, by decide, tw_i 324 (by rfl) rfl, Or.inl rfl⟩
set_option maxRecDepth 100000 in
theorem fl_X2_163 : fp_fl RX2 163 3 3 := ⟨_, _, _, _, RX2, cl_X2, by decide, tw_i 199 (by rfl) rfl, Or.inl rfl⟩
set_option maxRecDepth 100000 in
theorem fs_X2_163 (nm : String) : fp_fs RX2 nm 163 3 3 (tyX2 3) := ⟨_, _, _, _, RX2, cl_X2, by decide, tw_i 199 (by rfl) rfl, Or.inl rfl, rfl, Or.inl rfl⟩
set_option maxRecDepth 100000 in
theorem fl_X2_176 : fp_fl RX2 176 6 2 := ⟨_, _, _, _, RX5, cl_X5, by decide, tw_i 547 (by rfl) rfl, Or.inl rfl⟩
set_option maxRecDepth 100000 in
theorem fl_X2_180 : fp_fl RX2 180 6 0 := ⟨_, _, _, _, RX5, cl_X5, by decide, tw_i 543 (by rfl) rfl, Or.inl rfl⟩
set_option maxRecDepth 100000 in
theorem fl_X2_183 : fp_fl RX2 183 6 1 := ⟨_, _, _, _, RX5, cl_X5, by decide, tw_i 545 (by rfl) rfl, Or.inl rfl⟩
set_option maxRecDepth 100000 in
theorem fl_X2_193 : fp_fl RX2 193 7 1 := ⟨_, _, _, _, RX6, cl_X6, by decide, tw_i 100 (by rfl) rfl, Or.inl rfl⟩
set_option maxRecDepth 100000 in
theorem fl_X2_202 : fp_fl RX2 202 7 3 := ⟨_, _, _, _, RX6, cl_X6, by decide, tw_i 105 (by rfl) rfl, Or.inl rfl⟩
set_option maxRecDepth 100000 in
theorem fs_X3_7 : fp_fs RX3 "<init>" 7 4 0 (tyX3 0) := ⟨_, _, _, _, RX3, cl_X3, by decide, tw_i 317 (by rfl) rfl, Or.inl rfl, rfl, Or.inr ⟨rfl, rfl, rfl⟩⟩
set_option maxRecDepth 100000 in
theorem fs_X3_13 : fp_fs RX3 "<init>" 13 4 1 (tyX3 1) := ⟨_, _, _, _, RX3, cl_X3, by decide, tw_i 320 (by rfl) rfl, Or.inl rfl, rfl, Or.inr ⟨rfl, rfl, rfl⟩⟩
set_option maxRecDepth 100000 in
theorem fs_X3_16 : fp_fs RX3 "<init>" 16 4 2 (tyX3 2) := ⟨_, _, _, _, RX3, cl_X3, by decide, tw_i 323 (by rfl) rfl, Or.inl rfl, rfl, Or.inr ⟨rfl, rfl, rfl⟩⟩
set_option maxRecDepth 100000 in
theorem fs_X4_7 : fp_fs RX4 "<init>" 7 5 0 (tyX4 0) := ⟨_, _, _, _, RX4, cl_X4, by decide, tw_i 250 (by rfl) rfl, Or.inl rfl, rfl, Or.inr ⟨rfl, rfl, rfl⟩⟩
set_option maxRecDepth 100000 in
theorem nw_X4_13 : fp_nw RX4 13 0 3 [.int 0, .null, .int 0] := ⟨_, _, _, cl_Jx4a65c, tw_i 248 (by rfl) rfl, tw_i 167 (by rfl) rfl, tw_i 39 (by rfl) rfl, by decide +kernel⟩
set_option maxRecDepth 100000 in
theorem fs_X4_16 : fp_fs RX4 "<init>" 16 5 1 (tyX4 1) := ⟨_, _, _, _, RX4, cl_X4, by decide, tw_i 252 (by rfl) rfl, Or.inl rfl, rfl, Or.inr ⟨rfl, rfl, rfl⟩⟩
set_option maxRecDepth 100000 in
theorem fs_X4_20 : fp_fs RX4 "<init>" 20 5 2 (tyX4 2) := ⟨_, _, _, _, RX4, cl_X4, by decide, tw_i 254 (by rfl) rfl, Or.inl rfl, rfl, Or.inr ⟨rfl, rfl, rfl⟩⟩
set_option maxRecDepth 100000 in
theorem fs_X4_23 : fp_fs RX4 "<init>" 23 5 3 (tyX4 3) := ⟨_, _, _, _, RX4, cl_X4, by decide, tw_i 257 (by rfl) rfl, Or.inl rfl, rfl, Or.inr ⟨rfl, rfl, rfl⟩⟩
set_option maxRecDepth 100000 in
theorem fs_X5_7 : fp_fs RX5 "<init>" 7 6 0 (tyX5 0) := ⟨_, _, _, _, RX5, cl_X5, by decide, tw_i 542 (by rfl) rfl, Or.inl rfl, rfl, Or.inr ⟨rfl, rfl, rfl⟩⟩
set_option maxRecDepth 100000 in
theorem fs_X5_13 : fp_fs RX5 "<init>" 13 6 1 (tyX5 1) := ⟨_, _, _, _, RX5, cl_X5, by decide, tw_i 544 (by rfl) rfl, Or.inl rfl, rfl, Or.inr ⟨rfl, rfl, rfl⟩⟩
set_option maxRecDepth 100000 in
theorem fs_X5_16 : fp_fs RX5 "<init>" 16 6 2 (tyX5 2) := ⟨_, _, _, _, RX5, cl_X5, by decide, tw_i 546 (by rfl) rfl, Or.inl rfl, rfl, Or.inr ⟨rfl, rfl, rfl⟩⟩
set_option maxRecDepth 100000 in
theorem fl_X6_9 : fp_fl RX6 9 7 0 := ⟨_, _, _, _, RX6, cl_X6, by decide, tw_i 97 (by rfl) rfl, Or.inl rfl⟩
set_option maxRecDepth 100000 in
theorem fs_X6_9 : fp_fs RX6 "<init>" 9 7 0 (tyX6 0) := ⟨_, _, _, _, RX6, cl_X6, by decide, tw_i 97 (by rfl) rfl, Or.inl rfl, rfl, Or.inr ⟨rfl, rfl, rfl⟩⟩
set_option maxRecDepth 100000 in
theorem fl_X6_15 : fp_fl RX6 15 7 2 := ⟨_, _, _, _, RX6, cl_X6, by decide, tw_i 101 (by rfl) rfl, Or.inl rfl⟩
set_option maxRecDepth 100000 in
theorem fs_X6_15 (nm : String) : fp_fs RX6 nm 15 7 2 (tyX6 2) := ⟨_, _, _, _, RX6, cl_X6, by decide, tw_i 101 (by rfl) rfl, Or.inl rfl, rfl, Or.inl rfl⟩
set_option maxRecDepth 100000 in
theorem fl_X6_19 : fp_fl RX6 19 7 1 := ⟨_, _, _, _, RX6, cl_X6, by decide, tw_i 98 (by rfl) rfl, Or.inl rfl⟩
set_option maxRecDepth 100000 in
theorem fs_X6_19 (nm : String) : fp_fs RX6 nm 19 7 1 (tyX6 1) := ⟨_, _, _, _, RX6, cl_X6, by decide, tw_i 98 (by rfl) rfl, Or.inl rfl, rfl, Or.inl rfl⟩
set_option maxRecDepth 100000 in
theorem fs_X6_22 (nm : String) : fp_fs RX6 nm 22 7 3 (tyX6 3) := ⟨_, _, _, _, RX6, cl_X6, by decide, tw_i 103 (by rfl) rfl, Or.inl rfl, rfl, Or.inl rfl⟩
set_option maxRecDepth 100000 in
theorem fl_X6_26 : fp_fl RX6 26 1 0 := ⟨_, _, _, _, RX0, cl_X0, by decide, tw_i 79 (by rfl) rfl, Or.inl rfl⟩
set_option maxRecDepth 100000 in
theorem fs_X7_7 : fp_fs RX7 "<init>" 7 8 0 (tyX7 0) := ⟨_, _, _, _, RX7, cl_X7, by decide, tw_i 708 (by rfl) rfl, Or.inl rfl, rfl, Or.inr ⟨rfl, rfl, rfl⟩⟩
set_option maxRecDepth 100000 in
theorem fs_X7_13 : fp_fs RX7 "<init>" 13 8 1 (tyX7 1) := ⟨_, _, _, _, RX7, cl_X7, by decide, tw_i 710 (by rfl) rfl, Or.inl rfl, rfl, Or.inr ⟨rfl, rfl, rfl⟩⟩
set_option maxRecDepth 100000 in
theorem nw_X7_17 : fp_nw RX7 17 0 3 [.int 0, .null, .int 0] := ⟨_, _, _, cl_Jx4a65c, tw_i 706 (by rfl) rfl, tw_i 167 (by rfl) rfl, tw_i 39 (by rfl) rfl, by decide +kernel⟩
set_option maxRecDepth 100000 in
theorem fs_X7_20 : fp_fs RX7 "<init>" 20 8 2 (tyX7 2) := ⟨_, _, _, _, RX7, cl_X7, by decide, tw_i 712 (by rfl) rfl, Or.inl rfl, rfl, Or.inr ⟨rfl, rfl, rfl⟩⟩
set_option maxRecDepth 100000 in
theorem fl_X8_9 : fp_fl RX8 9 9 0 := ⟨_, _, _, _, RX8, cl_X8, by decide, tw_i 136 (by rfl) rfl, Or.inl rfl⟩
set_option maxRecDepth 100000 in
theorem fs_X8_9 : fp_fs RX8 "<init>" 9 9 0 (tyX8 0) := ⟨_, _, _, _, RX8, cl_X8, by decide, tw_i 136 (by rfl) rfl, Or.inl rfl, rfl, Or.inr ⟨rfl, rfl, rfl⟩⟩
set_option maxRecDepth 100000 in
theorem fl_X8_15 : fp_fl RX8 15 9 1 := ⟨_, _, _, _, RX8, cl_X8, by decide, tw_i 139 (by rfl) rfl, Or.inl rfl⟩
set_option maxRecDepth 100000 in
theorem fs_X8_15 : fp_fs RX8 "<init>" 15 9 1 (tyX8 1) := ⟨_, _, _, _, RX8, cl_X8, by decide, tw_i 139 (by rfl) rfl, Or.inl rfl, rfl, Or.inr ⟨rfl, rfl, rfl⟩⟩
set_option maxRecDepth 100000 in
theorem fl_X8_19 : fp_fl RX8 19 9 2 := ⟨_, _, _, _, RX8, cl_X8, by decide, tw_i 140 (by rfl) rfl, Or.inl rfl⟩
set_option maxRecDepth 100000 in
theorem fs_X8_19 : fp_fs RX8 "<init>" 19 9 2 (tyX8 2) := ⟨_, _, _, _, RX8, cl_X8, by decide, tw_i 140 (by rfl) rfl, Or.inl rfl, rfl, Or.inr ⟨rfl, rfl, rfl⟩⟩
set_option maxRecDepth 100000 in
theorem fl_X8_22 : fp_fl RX8 22 9 3 := ⟨_, _, _, _, RX8, cl_X8, by decide, tw_i 141 (by rfl) rfl, Or.inl rfl⟩
set_option maxRecDepth 100000 in
theorem fs_X8_22 : fp_fs RX8 "<init>" 22 9 3 (tyX8 3) := ⟨_, _, _, _, RX8, cl_X8, by decide, tw_i 141 (by rfl) rfl, Or.inl rfl, rfl, Or.inr ⟨rfl, rfl, rfl⟩⟩
set_option maxRecDepth 100000 in
theorem fl_X8_26 : fp_fl RX8 26 9 4 := ⟨_, _, _, _, RX8, cl_X8, by decide, tw_i 142 (by rfl) rfl, Or.inl rfl⟩
set_option maxRecDepth 100000 in
theorem fs_X8_26 (nm : String) : fp_fs RX8 nm 26 9 4 (tyX8 4) := ⟨_, _, _, _, RX8, cl_X8, by decide, tw_i 142 (by rfl) rfl, Or.inl rfl, rfl, Or.inl rfl⟩
set_option maxRecDepth 100000 in
theorem fl_X8_29 : fp_fl RX8 29 9 5 := ⟨_, _, _, _, RX8, cl_X8, by decide, tw_i 144 (by rfl) rfl, Or.inl rfl⟩
set_option maxRecDepth 100000 in
theorem fs_X8_29 (nm : String) : fp_fs RX8 nm 29 9 5 (tyX8 5) := ⟨_, _, _, _, RX8, cl_X8, by decide, tw_i 144 (by rfl) rfl, Or.inl rfl, rfl, Or.inl rfl⟩
set_option maxRecDepth 100000 in
theorem kc_X8_36 : Cond.constantLong RX8 36 (-1) ∈ fp_tw := tw_i 478 (by rfl) rfl
set_option maxRecDepth 100000 in
theorem fl_X8_45 : fp_fl RX8 45 9 6 := ⟨_, _, _, _, RX8, cl_X8, by decide, tw_i 148 (by rfl) rfl, Or.inl rfl⟩
set_option maxRecDepth 100000 in
theorem fs_X8_45 (nm : String) : fp_fs RX8 nm 45 9 6 (tyX8 6) := ⟨_, _, _, _, RX8, cl_X8, by decide, tw_i 148 (by rfl) rfl, Or.inl rfl, rfl, Or.inl rfl⟩
set_option maxRecDepth 100000 in
theorem nw_X9_9 : fp_nw RX9 9 1 2 [.null, .int 0] := ⟨_, _, _, cl_X0, tw_i 71 (by rfl) rfl, tw_i 72 (by rfl) rfl, tw_i 33 (by rfl) rfl, by decide +kernel⟩
set_option maxRecDepth 100000 in
theorem fl_X9_14 : fp_fl RX9 14 10 0 := ⟨_, _, _, _, RX9, cl_X9, by decide, tw_i 115 (by rfl) rfl, Or.inl rfl⟩
set_option maxRecDepth 100000 in
theorem fs_X9_14 : fp_fs RX9 "<init>" 14 10 0 (tyX9 0) := ⟨_, _, _, _, RX9, cl_X9, by decide, tw_i 115 (by rfl) rfl, Or.inl rfl, rfl, Or.inr ⟨rfl, rfl, rfl⟩⟩
set_option maxRecDepth 100000 in
theorem nw_X9_20 : fp_nw RX9 20 7 4 [.null, .int 0, .int 0, .int 0] := ⟨_, _, _, cl_X6, tw_i 91 (by rfl) rfl, tw_i 92 (by rfl) rfl, tw_i 34 (by rfl) rfl, by decide +kernel⟩
set_option maxRecDepth 100000 in
theorem fl_X9_25 : fp_fl RX9 25 10 1 := ⟨_, _, _, _, RX9, cl_X9, by decide, tw_i 117 (by rfl) rfl, Or.inl rfl⟩
set_option maxRecDepth 100000 in
theorem fs_X9_25 : fp_fs RX9 "<init>" 25 10 1 (tyX9 1) := ⟨_, _, _, _, RX9, cl_X9, by decide, tw_i 117 (by rfl) rfl, Or.inl rfl, rfl, Or.inr ⟨rfl, rfl, rfl⟩⟩
set_option maxRecDepth 100000 in
theorem fl_X9_29 : fp_fl RX9 29 1 1 := ⟨_, _, _, _, RX0, cl_X0, by decide, tw_i 80 (by rfl) rfl, Or.inl rfl⟩
set_option maxRecDepth 100000 in
theorem fl_X9_33 : fp_fl RX9 33 7 2 := ⟨_, _, _, _, RX6, cl_X6, by decide, tw_i 102 (by rfl) rfl, Or.inl rfl⟩
set_option maxRecDepth 100000 in
theorem fs_X9_33 (nm : String) : fp_fs RX9 nm 33 7 2 (tyX6 2) := ⟨_, _, _, _, RX6, cl_X6, by decide, tw_i 102 (by rfl) rfl, Or.inl rfl, rfl, Or.inl rfl⟩
set_option maxRecDepth 100000 in
theorem nw_L_7 : fp_nw RL 7 11 7 [.null, .null, .null, .null, .null, .null, .int 0] := ⟨_, _, _, cl_X10, tw_i 51 (by rfl) rfl, tw_i 52 (by rfl) rfl, tw_i 30 (by rfl) rfl, by decide +kernel⟩
set_option maxRecDepth 100000 in
theorem nw_L_18 : fp_nw RL 18 12 46 [.int 0, .int 0, .int 0, .null, .null, .null, .int 0, .null, .null, .null, .int 0, .int 0, .int 0, .int 0, .null, .int 0, .int 0, .null, .int 0, .int 0, .null, .null, .null, .int 0, .int 0, .int 0, .int 0, .int 0, .int 0, .null, .null, .null, .null, .null, .null, .null, .null, .null, .null, .null, .null, .int 0, .null, .null, .int 0, .null] := ⟨_, _, _, cl_X11, tw_i 790 (by rfl) rfl, tw_i 791 (by rfl) rfl, tw_i 42 (by rfl) rfl, by decide +kernel⟩
set_option maxRecDepth 100000 in
theorem kc_L_21 : Cond.constantLong RL 21 (4294967295) ∈ fp_tw := tw_i 1086 (by rfl) rfl
set_option maxRecDepth 100000 in
theorem fl_X11_7 : fp_fl RX11 7 12 3 := ⟨_, _, _, _, RX11, cl_X11, by decide, tw_i 800 (by rfl) rfl, Or.inl rfl⟩
set_option maxRecDepth 100000 in
theorem fs_X11_7 : fp_fs RX11 "<init>" 7 12 3 (tyX11 3) := ⟨_, _, _, _, RX11, cl_X11, by decide, tw_i 800 (by rfl) rfl, Or.inl rfl, rfl, Or.inr ⟨rfl, rfl, rfl⟩⟩
set_option maxRecDepth 100000 in
theorem fl_X11_13 : fp_fl RX11 13 12 4 := ⟨_, _, _, _, RX11, cl_X11, by decide, tw_i 801 (by rfl) rfl, Or.inl rfl⟩
set_option maxRecDepth 100000 in
theorem fs_X11_13 : fp_fs RX11 "<init>" 13 12 4 (tyX11 4) := ⟨_, _, _, _, RX11, cl_X11, by decide, tw_i 801 (by rfl) rfl, Or.inl rfl, rfl, Or.inr ⟨rfl, rfl, rfl⟩⟩
set_option maxRecDepth 100000 in
theorem fl_X11_16 : fp_fl RX11 16 12 5 := ⟨_, _, _, _, RX11, cl_X11, by decide, tw_i 802 (by rfl) rfl, Or.inl rfl⟩
set_option maxRecDepth 100000 in
theorem fs_X11_16 : fp_fs RX11 "<init>" 16 12 5 (tyX11 5) := ⟨_, _, _, _, RX11, cl_X11, by decide, tw_i 802 (by rfl) rfl, Or.inl rfl, rfl, Or.inr ⟨rfl, rfl, rfl⟩⟩
set_option maxRecDepth 100000 in
theorem fl_X11_20 : fp_fl RX11 20 12 7 := ⟨_, _, _, _, RX11, cl_X11, by decide, tw_i 804 (by rfl) rfl, Or.inl rfl⟩
set_option maxRecDepth 100000 in
theorem fs_X11_20 : fp_fs RX11 "<init>" 20 12 7 (tyX11 7) := ⟨_, _, _, _, RX11, cl_X11, by decide, tw_i 804 (by rfl) rfl, Or.inl rfl, rfl, Or.inr ⟨rfl, rfl, rfl⟩⟩
set_option maxRecDepth 100000 in
theorem fl_X11_23 : fp_fl RX11 23 12 8 := ⟨_, _, _, _, RX11, cl_X11, by decide, tw_i 805 (by rfl) rfl, Or.inl rfl⟩
set_option maxRecDepth 100000 in
theorem fs_X11_23 : fp_fs RX11 "<init>" 23 12 8 (tyX11 8) := ⟨_, _, _, _, RX11, cl_X11, by decide, tw_i 805 (by rfl) rfl, Or.inl rfl, rfl, Or.inr ⟨rfl, rfl, rfl⟩⟩
set_option maxRecDepth 100000 in
theorem fl_X11_26 : fp_fl RX11 26 12 9 := ⟨_, _, _, _, RX11, cl_X11, by decide, tw_i 806 (by rfl) rfl, Or.inl rfl⟩
set_option maxRecDepth 100000 in
theorem fs_X11_26 : fp_fs RX11 "<init>" 26 12 9 (tyX11 9) := ⟨_, _, _, _, RX11, cl_X11, by decide, tw_i 806 (by rfl) rfl, Or.inl rfl, rfl, Or.inr ⟨rfl, rfl, rfl⟩⟩
set_option maxRecDepth 100000 in
theorem kc_X11_30 : Cond.constant RX11 30 (60000) ∈ fp_tw := tw_i 796 (by rfl) rfl
set_option maxRecDepth 100000 in
theorem fl_X11_31 : fp_fl RX11 31 12 14 := ⟨_, _, _, _, RX11, cl_X11, by decide, tw_i 811 (by rfl) rfl, Or.inl rfl⟩
set_option maxRecDepth 100000 in
theorem fs_X11_31 : fp_fs RX11 "<init>" 31 12 14 (tyX11 14) := ⟨_, _, _, _, RX11, cl_X11, by decide, tw_i 811 (by rfl) rfl, Or.inl rfl, rfl, Or.inr ⟨rfl, rfl, rfl⟩⟩
set_option maxRecDepth 100000 in
theorem fl_X11_34 : fp_fl RX11 34 12 17 := ⟨_, _, _, _, RX11, cl_X11, by decide, tw_i 814 (by rfl) rfl, Or.inl rfl⟩
set_option maxRecDepth 100000 in
theorem fs_X11_34 : fp_fs RX11 "<init>" 34 12 17 (tyX11 17) := ⟨_, _, _, _, RX11, cl_X11, by decide, tw_i 814 (by rfl) rfl, Or.inl rfl, rfl, Or.inr ⟨rfl, rfl, rfl⟩⟩
set_option maxRecDepth 100000 in
theorem fl_X11_37 : fp_fl RX11 37 12 20 := ⟨_, _, _, _, RX11, cl_X11, by decide, tw_i 817 (by rfl) rfl, Or.inl rfl⟩
set_option maxRecDepth 100000 in
theorem fs_X11_37 : fp_fs RX11 "<init>" 37 12 20 (tyX11 20) := ⟨_, _, _, _, RX11, cl_X11, by decide, tw_i 817 (by rfl) rfl, Or.inl rfl, rfl, Or.inr ⟨rfl, rfl, rfl⟩⟩
set_option maxRecDepth 100000 in
theorem fl_X11_40 : fp_fl RX11 40 12 21 := ⟨_, _, _, _, RX11, cl_X11, by decide, tw_i 818 (by rfl) rfl, Or.inl rfl⟩
set_option maxRecDepth 100000 in
theorem fs_X11_40 : fp_fs RX11 "<init>" 40 12 21 (tyX11 21) := ⟨_, _, _, _, RX11, cl_X11, by decide, tw_i 818 (by rfl) rfl, Or.inl rfl, rfl, Or.inr ⟨rfl, rfl, rfl⟩⟩
set_option maxRecDepth 100000 in
theorem fl_X11_43 : fp_fl RX11 43 12 22 := ⟨_, _, _, _, RX11, cl_X11, by decide, tw_i 819 (by rfl) rfl, Or.inl rfl⟩
set_option maxRecDepth 100000 in
theorem fs_X11_43 : fp_fs RX11 "<init>" 43 12 22 (tyX11 22) := ⟨_, _, _, _, RX11, cl_X11, by decide, tw_i 819 (by rfl) rfl, Or.inl rfl, rfl, Or.inr ⟨rfl, rfl, rfl⟩⟩
set_option maxRecDepth 100000 in
theorem fl_X11_46 : fp_fl RX11 46 12 29 := ⟨_, _, _, _, RX11, cl_X11, by decide, tw_i 826 (by rfl) rfl, Or.inl rfl⟩
set_option maxRecDepth 100000 in
theorem fs_X11_46 : fp_fs RX11 "<init>" 46 12 29 (tyX11 29) := ⟨_, _, _, _, RX11, cl_X11, by decide, tw_i 826 (by rfl) rfl, Or.inl rfl, rfl, Or.inr ⟨rfl, rfl, rfl⟩⟩
set_option maxRecDepth 100000 in
theorem fl_X11_49 : fp_fl RX11 49 12 30 := ⟨_, _, _, _, RX11, cl_X11, by decide, tw_i 827 (by rfl) rfl, Or.inl rfl⟩
set_option maxRecDepth 100000 in
theorem fs_X11_49 : fp_fs RX11 "<init>" 49 12 30 (tyX11 30) := ⟨_, _, _, _, RX11, cl_X11, by decide, tw_i 827 (by rfl) rfl, Or.inl rfl, rfl, Or.inr ⟨rfl, rfl, rfl⟩⟩
set_option maxRecDepth 100000 in
theorem fl_X11_52 : fp_fl RX11 52 12 31 := ⟨_, _, _, _, RX11, cl_X11, by decide, tw_i 828 (by rfl) rfl, Or.inl rfl⟩
set_option maxRecDepth 100000 in
theorem fs_X11_52 : fp_fs RX11 "<init>" 52 12 31 (tyX11 31) := ⟨_, _, _, _, RX11, cl_X11, by decide, tw_i 828 (by rfl) rfl, Or.inl rfl, rfl, Or.inr ⟨rfl, rfl, rfl⟩⟩
set_option maxRecDepth 100000 in
theorem fl_X11_55 : fp_fl RX11 55 12 32 := ⟨_, _, _, _, RX11, cl_X11, by decide, tw_i 829 (by rfl) rfl, Or.inl rfl⟩
set_option maxRecDepth 100000 in
theorem fs_X11_55 : fp_fs RX11 "<init>" 55 12 32 (tyX11 32) := ⟨_, _, _, _, RX11, cl_X11, by decide, tw_i 829 (by rfl) rfl, Or.inl rfl, rfl, Or.inr ⟨rfl, rfl, rfl⟩⟩
set_option maxRecDepth 100000 in
theorem fl_X11_58 : fp_fl RX11 58 12 33 := ⟨_, _, _, _, RX11, cl_X11, by decide, tw_i 830 (by rfl) rfl, Or.inl rfl⟩
set_option maxRecDepth 100000 in
theorem fs_X11_58 : fp_fs RX11 "<init>" 58 12 33 (tyX11 33) := ⟨_, _, _, _, RX11, cl_X11, by decide, tw_i 830 (by rfl) rfl, Or.inl rfl, rfl, Or.inr ⟨rfl, rfl, rfl⟩⟩
set_option maxRecDepth 100000 in
theorem fl_X11_61 : fp_fl RX11 61 12 34 := ⟨_, _, _, _, RX11, cl_X11, by decide, tw_i 831 (by rfl) rfl, Or.inl rfl⟩
set_option maxRecDepth 100000 in
theorem fs_X11_61 : fp_fs RX11 "<init>" 61 12 34 (tyX11 34) := ⟨_, _, _, _, RX11, cl_X11, by decide, tw_i 831 (by rfl) rfl, Or.inl rfl, rfl, Or.inr ⟨rfl, rfl, rfl⟩⟩
set_option maxRecDepth 100000 in
theorem fl_X11_64 : fp_fl RX11 64 12 35 := ⟨_, _, _, _, RX11, cl_X11, by decide, tw_i 832 (by rfl) rfl, Or.inl rfl⟩
set_option maxRecDepth 100000 in
theorem fs_X11_64 : fp_fs RX11 "<init>" 64 12 35 (tyX11 35) := ⟨_, _, _, _, RX11, cl_X11, by decide, tw_i 832 (by rfl) rfl, Or.inl rfl, rfl, Or.inr ⟨rfl, rfl, rfl⟩⟩
set_option maxRecDepth 100000 in
theorem fl_X11_67 : fp_fl RX11 67 12 36 := ⟨_, _, _, _, RX11, cl_X11, by decide, tw_i 833 (by rfl) rfl, Or.inl rfl⟩
set_option maxRecDepth 100000 in
theorem fs_X11_67 : fp_fs RX11 "<init>" 67 12 36 (tyX11 36) := ⟨_, _, _, _, RX11, cl_X11, by decide, tw_i 833 (by rfl) rfl, Or.inl rfl, rfl, Or.inr ⟨rfl, rfl, rfl⟩⟩
set_option maxRecDepth 100000 in
theorem fl_X11_70 : fp_fl RX11 70 12 37 := ⟨_, _, _, _, RX11, cl_X11, by decide, tw_i 834 (by rfl) rfl, Or.inl rfl⟩
set_option maxRecDepth 100000 in
theorem fs_X11_70 : fp_fs RX11 "<init>" 70 12 37 (tyX11 37) := ⟨_, _, _, _, RX11, cl_X11, by decide, tw_i 834 (by rfl) rfl, Or.inl rfl, rfl, Or.inr ⟨rfl, rfl, rfl⟩⟩
set_option maxRecDepth 100000 in
theorem fl_X11_73 : fp_fl RX11 73 12 38 := ⟨_, _, _, _, RX11, cl_X11, by decide, tw_i 835 (by rfl) rfl, Or.inl rfl⟩
set_option maxRecDepth 100000 in
theorem fs_X11_73 : fp_fs RX11 "<init>" 73 12 38 (tyX11 38) := ⟨_, _, _, _, RX11, cl_X11, by decide, tw_i 835 (by rfl) rfl, Or.inl rfl, rfl, Or.inr ⟨rfl, rfl, rfl⟩⟩
set_option maxRecDepth 100000 in
theorem fl_X11_76 : fp_fl RX11 76 12 39 := ⟨_, _, _, _, RX11, cl_X11, by decide, tw_i 836 (by rfl) rfl, Or.inl rfl⟩
set_option maxRecDepth 100000 in
theorem fs_X11_76 : fp_fs RX11 "<init>" 76 12 39 (tyX11 39) := ⟨_, _, _, _, RX11, cl_X11, by decide, tw_i 836 (by rfl) rfl, Or.inl rfl, rfl, Or.inr ⟨rfl, rfl, rfl⟩⟩
set_option maxRecDepth 100000 in
theorem fl_X11_79 : fp_fl RX11 79 12 40 := ⟨_, _, _, _, RX11, cl_X11, by decide, tw_i 837 (by rfl) rfl, Or.inl rfl⟩
set_option maxRecDepth 100000 in
theorem fs_X11_79 : fp_fs RX11 "<init>" 79 12 40 (tyX11 40) := ⟨_, _, _, _, RX11, cl_X11, by decide, tw_i 837 (by rfl) rfl, Or.inl rfl, rfl, Or.inr ⟨rfl, rfl, rfl⟩⟩
set_option maxRecDepth 100000 in
theorem fl_X11_82 : fp_fl RX11 82 12 42 := ⟨_, _, _, _, RX11, cl_X11, by decide, tw_i 839 (by rfl) rfl, Or.inl rfl⟩
set_option maxRecDepth 100000 in
theorem fs_X11_82 : fp_fs RX11 "<init>" 82 12 42 (tyX11 42) := ⟨_, _, _, _, RX11, cl_X11, by decide, tw_i 839 (by rfl) rfl, Or.inl rfl, rfl, Or.inr ⟨rfl, rfl, rfl⟩⟩
set_option maxRecDepth 100000 in
theorem fl_X11_85 : fp_fl RX11 85 12 43 := ⟨_, _, _, _, RX11, cl_X11, by decide, tw_i 840 (by rfl) rfl, Or.inl rfl⟩
set_option maxRecDepth 100000 in
theorem fs_X11_85 : fp_fs RX11 "<init>" 85 12 43 (tyX11 43) := ⟨_, _, _, _, RX11, cl_X11, by decide, tw_i 840 (by rfl) rfl, Or.inl rfl, rfl, Or.inr ⟨rfl, rfl, rfl⟩⟩
set_option maxRecDepth 100000 in
theorem fl_X11_88 : fp_fl RX11 88 12 45 := ⟨_, _, _, _, RX11, cl_X11, by decide, tw_i 842 (by rfl) rfl, Or.inl rfl⟩
set_option maxRecDepth 100000 in
theorem fs_X11_88 : fp_fs RX11 "<init>" 88 12 45 (tyX11 45) := ⟨_, _, _, _, RX11, cl_X11, by decide, tw_i 842 (by rfl) rfl, Or.inl rfl, rfl, Or.inr ⟨rfl, rfl, rfl⟩⟩
set_option maxRecDepth 100000 in
theorem fl_X11_91 : fp_fl RX11 91 12 0 := ⟨_, _, _, _, RX11, cl_X11, by decide, tw_i 797 (by rfl) rfl, Or.inl rfl⟩
set_option maxRecDepth 100000 in
theorem fs_X11_91 : fp_fs RX11 "<init>" 91 12 0 (tyX11 0) := ⟨_, _, _, _, RX11, cl_X11, by decide, tw_i 797 (by rfl) rfl, Or.inl rfl, rfl, Or.inr ⟨rfl, rfl, rfl⟩⟩
set_option maxRecDepth 100000 in
theorem fl_X11_95 : fp_fl RX11 95 12 1 := ⟨_, _, _, _, RX11, cl_X11, by decide, tw_i 798 (by rfl) rfl, Or.inl rfl⟩
set_option maxRecDepth 100000 in
theorem fs_X11_95 : fp_fs RX11 "<init>" 95 12 1 (tyX11 1) := ⟨_, _, _, _, RX11, cl_X11, by decide, tw_i 798 (by rfl) rfl, Or.inl rfl, rfl, Or.inr ⟨rfl, rfl, rfl⟩⟩
set_option maxRecDepth 100000 in
theorem kc_X11_98 : Cond.constantLong RX11 98 (255) ∈ fp_tw := tw_i 947 (by rfl) rfl
set_option maxRecDepth 100000 in
theorem fl_X11_104 : fp_fl RX11 104 12 13 := ⟨_, _, _, _, RX11, cl_X11, by decide, tw_i 810 (by rfl) rfl, Or.inl rfl⟩
set_option maxRecDepth 100000 in
theorem fs_X11_104 (nm : String) : fp_fs RX11 nm 104 12 13 (tyX11 13) := ⟨_, _, _, _, RX11, cl_X11, by decide, tw_i 810 (by rfl) rfl, Or.inl rfl, rfl, Or.inl rfl⟩
set_option maxRecDepth 100000 in
theorem fl_X11_107 : fp_fl RX11 107 12 16 := ⟨_, _, _, _, RX11, cl_X11, by decide, tw_i 813 (by rfl) rfl, Or.inl rfl⟩
set_option maxRecDepth 100000 in
theorem fs_X11_107 (nm : String) : fp_fs RX11 nm 107 12 16 (tyX11 16) := ⟨_, _, _, _, RX11, cl_X11, by decide, tw_i 813 (by rfl) rfl, Or.inl rfl, rfl, Or.inl rfl⟩
set_option maxRecDepth 100000 in
theorem fl_X11_110 : fp_fl RX11 110 12 44 := ⟨_, _, _, _, RX11, cl_X11, by decide, tw_i 841 (by rfl) rfl, Or.inl rfl⟩
set_option maxRecDepth 100000 in
theorem fs_X11_110 (nm : String) : fp_fs RX11 nm 110 12 44 (tyX11 44) := ⟨_, _, _, _, RX11, cl_X11, by decide, tw_i 841 (by rfl) rfl, Or.inl rfl, rfl, Or.inl rfl⟩
set_option maxRecDepth 100000 in
theorem fl_X11_113 : fp_fl RX11 113 12 41 := ⟨_, _, _, _, RX11, cl_X11, by decide, tw_i 838 (by rfl) rfl, Or.inl rfl⟩
set_option maxRecDepth 100000 in
theorem fs_X11_113 (nm : String) : fp_fs RX11 nm 113 12 41 (tyX11 41) := ⟨_, _, _, _, RX11, cl_X11, by decide, tw_i 838 (by rfl) rfl, Or.inl rfl, rfl, Or.inl rfl⟩
set_option maxRecDepth 100000 in
theorem fl_X11_124 : fp_fl RX11 124 12 2 := ⟨_, _, _, _, RX11, cl_X11, by decide, tw_i 799 (by rfl) rfl, Or.inl rfl⟩
set_option maxRecDepth 100000 in
theorem fs_X11_124 (nm : String) : fp_fs RX11 nm 124 12 2 (tyX11 2) := ⟨_, _, _, _, RX11, cl_X11, by decide, tw_i 799 (by rfl) rfl, Or.inl rfl, rfl, Or.inl rfl⟩
set_option maxRecDepth 100000 in
theorem kc_X11_131 : Cond.constantLong RX11 131 (97) ∈ fp_tw := tw_i 971 (by rfl) rfl
set_option maxRecDepth 100000 in
theorem kc_X11_133 : Cond.constantLong RX11 133 (104) ∈ fp_tw := tw_i 972 (by rfl) rfl
set_option maxRecDepth 100000 in
theorem kc_X11_135 : Cond.constantLong RX11 135 (49) ∈ fp_tw := tw_i 976 (by rfl) rfl
set_option maxRecDepth 100000 in
theorem fl_X11_137 : fp_fl RX11 137 12 6 := ⟨_, _, _, _, RX11, cl_X11, by decide, tw_i 803 (by rfl) rfl, Or.inl rfl⟩
set_option maxRecDepth 100000 in
theorem fs_X11_137 (nm : String) : fp_fs RX11 nm 137 12 6 (tyX11 6) := ⟨_, _, _, _, RX11, cl_X11, by decide, tw_i 803 (by rfl) rfl, Or.inl rfl, rfl, Or.inl rfl⟩
set_option maxRecDepth 100000 in
theorem fl_X11_140 : fp_fl RX11 140 12 10 := ⟨_, _, _, _, RX11, cl_X11, by decide, tw_i 807 (by rfl) rfl, Or.inl rfl⟩
set_option maxRecDepth 100000 in
theorem fs_X11_140 (nm : String) : fp_fs RX11 nm 140 12 10 (tyX11 10) := ⟨_, _, _, _, RX11, cl_X11, by decide, tw_i 807 (by rfl) rfl, Or.inl rfl, rfl, Or.inl rfl⟩
set_option maxRecDepth 100000 in
theorem fl_X11_143 : fp_fl RX11 143 12 28 := ⟨_, _, _, _, RX11, cl_X11, by decide, tw_i 825 (by rfl) rfl, Or.inl rfl⟩
set_option maxRecDepth 100000 in
theorem fs_X11_143 (nm : String) : fp_fs RX11 nm 143 12 28 (tyX11 28) := ⟨_, _, _, _, RX11, cl_X11, by decide, tw_i 825 (by rfl) rfl, Or.inl rfl, rfl, Or.inl rfl⟩
set_option maxRecDepth 100000 in
theorem fl_X11_146 : fp_fl RX11 146 12 12 := ⟨_, _, _, _, RX11, cl_X11, by decide, tw_i 809 (by rfl) rfl, Or.inl rfl⟩
set_option maxRecDepth 100000 in
theorem fs_X11_146 (nm : String) : fp_fs RX11 nm 146 12 12 (tyX11 12) := ⟨_, _, _, _, RX11, cl_X11, by decide, tw_i 809 (by rfl) rfl, Or.inl rfl, rfl, Or.inl rfl⟩
set_option maxRecDepth 100000 in
theorem fl_X11_153 : fp_fl RX11 153 12 11 := ⟨_, _, _, _, RX11, cl_X11, by decide, tw_i 808 (by rfl) rfl, Or.inl rfl⟩
set_option maxRecDepth 100000 in
theorem fs_X11_153 (nm : String) : fp_fs RX11 nm 153 12 11 (tyX11 11) := ⟨_, _, _, _, RX11, cl_X11, by decide, tw_i 808 (by rfl) rfl, Or.inl rfl, rfl, Or.inl rfl⟩
set_option maxRecDepth 100000 in
theorem fl_X11_196 : fp_fl RX11 196 12 15 := ⟨_, _, _, _, RX11, cl_X11, by decide, tw_i 812 (by rfl) rfl, Or.inl rfl⟩
set_option maxRecDepth 100000 in
theorem fs_X11_196 (nm : String) : fp_fs RX11 nm 196 12 15 (tyX11 15) := ⟨_, _, _, _, RX11, cl_X11, by decide, tw_i 812 (by rfl) rfl, Or.inl rfl, rfl, Or.inl rfl⟩
set_option maxRecDepth 100000 in
theorem fl_X11_207 : fp_fl RX11 207 12 19 := ⟨_, _, _, _, RX11, cl_X11, by decide, tw_i 816 (by rfl) rfl, Or.inl rfl⟩
set_option maxRecDepth 100000 in
theorem fs_X11_207 (nm : String) : fp_fs RX11 nm 207 12 19 (tyX11 19) := ⟨_, _, _, _, RX11, cl_X11, by decide, tw_i 816 (by rfl) rfl, Or.inl rfl, rfl, Or.inl rfl⟩
set_option maxRecDepth 100000 in
theorem fl_X11_213 : fp_fl RX11 213 12 27 := ⟨_, _, _, _, RX11, cl_X11, by decide, tw_i 824 (by rfl) rfl, Or.inl rfl⟩
set_option maxRecDepth 100000 in
theorem fs_X11_213 (nm : String) : fp_fs RX11 nm 213 12 27 (tyX11 27) := ⟨_, _, _, _, RX11, cl_X11, by decide, tw_i 824 (by rfl) rfl, Or.inl rfl, rfl, Or.inl rfl⟩
set_option maxRecDepth 100000 in
theorem fl_X11_216 : fp_fl RX11 216 12 24 := ⟨_, _, _, _, RX11, cl_X11, by decide, tw_i 821 (by rfl) rfl, Or.inl rfl⟩
set_option maxRecDepth 100000 in
theorem fs_X11_216 (nm : String) : fp_fs RX11 nm 216 12 24 (tyX11 24) := ⟨_, _, _, _, RX11, cl_X11, by decide, tw_i 821 (by rfl) rfl, Or.inl rfl, rfl, Or.inl rfl⟩
set_option maxRecDepth 100000 in
theorem fl_X11_222 : fp_fl RX11 222 12 18 := ⟨_, _, _, _, RX11, cl_X11, by decide, tw_i 815 (by rfl) rfl, Or.inl rfl⟩
set_option maxRecDepth 100000 in
theorem fs_X11_222 (nm : String) : fp_fs RX11 nm 222 12 18 (tyX11 18) := ⟨_, _, _, _, RX11, cl_X11, by decide, tw_i 815 (by rfl) rfl, Or.inl rfl, rfl, Or.inl rfl⟩
set_option maxRecDepth 100000 in
theorem fl_X11_225 : fp_fl RX11 225 12 23 := ⟨_, _, _, _, RX11, cl_X11, by decide, tw_i 820 (by rfl) rfl, Or.inl rfl⟩
set_option maxRecDepth 100000 in
theorem fs_X11_225 (nm : String) : fp_fs RX11 nm 225 12 23 (tyX11 23) := ⟨_, _, _, _, RX11, cl_X11, by decide, tw_i 820 (by rfl) rfl, Or.inl rfl, rfl, Or.inl rfl⟩
set_option maxRecDepth 100000 in
theorem fl_X11_231 : fp_fl RX11 231 12 26 := ⟨_, _, _, _, RX11, cl_X11, by decide, tw_i 823 (by rfl) rfl, Or.inl rfl⟩
set_option maxRecDepth 100000 in
theorem fs_X11_231 (nm : String) : fp_fs RX11 nm 231 12 26 (tyX11 26) := ⟨_, _, _, _, RX11, cl_X11, by decide, tw_i 823 (by rfl) rfl, Or.inl rfl, rfl, Or.inl rfl⟩
set_option maxRecDepth 100000 in
theorem fl_X11_234 : fp_fl RX11 234 12 25 := ⟨_, _, _, _, RX11, cl_X11, by decide, tw_i 822 (by rfl) rfl, Or.inl rfl⟩
set_option maxRecDepth 100000 in
theorem fs_X11_234 (nm : String) : fp_fs RX11 nm 234 12 25 (tyX11 25) := ⟨_, _, _, _, RX11, cl_X11, by decide, tw_i 822 (by rfl) rfl, Or.inl rfl, rfl, Or.inl rfl⟩
set_option maxRecDepth 100000 in
theorem kc_X11_254 : Cond.constantLong RX11 254 (-1) ∈ fp_tw := tw_i 1077 (by rfl) rfl
set_option maxRecDepth 100000 in
theorem fs_Jxc12de_7 (nm : String) : fp_fs RJxc12de nm 7 0 0 (tyJx4a65c 0) := ⟨_, _, _, _, RJxc12de, cl_Jx4a65c, by decide, tw_i 182 (by rfl) rfl, Or.inl rfl, rfl, Or.inl rfl⟩
set_option maxRecDepth 100000 in
theorem ck_Jx4a65c_7 : Cond.classLink RJx4a65c 7 "java/lang/Object" ∈ fp_tw := tw_i 388 (by rfl) rfl
set_option maxRecDepth 100000 in
theorem fl_Jx4a65c_9 : fp_fl RJx4a65c 9 0 1 := ⟨_, _, _, _, RJx4a65c, cl_Jx4a65c, by decide, tw_i 180 (by rfl) rfl, Or.inl rfl⟩
set_option maxRecDepth 100000 in
theorem fs_Jx4a65c_9 (nm : String) : fp_fs RJx4a65c nm 9 0 1 (tyJx4a65c 1) := ⟨_, _, _, _, RJx4a65c, cl_Jx4a65c, by decide, tw_i 180 (by rfl) rfl, Or.inl rfl, rfl, Or.inl rfl⟩
set_option maxRecDepth 100000 in
theorem gs_Jx4a65c_39 : Cond.fieldLink RJx4a65c 39 "java/util/ArrayList" "DEFAULTCAPACITY_EMPTY_ELEMENTDATA" "[Ljava/lang/Object;" ∈ fp_tw := tw_i 178 (by rfl) rfl
set_option maxRecDepth 100000 in
theorem fl_Jx4a65c_48 : fp_fl RJx4a65c 48 0 2 := ⟨_, _, _, _, RJx4a65c, cl_Jx4a65c, by decide, tw_i 181 (by rfl) rfl, Or.inl rfl⟩
set_option maxRecDepth 100000 in
theorem fs_Jx4a65c_48 (nm : String) : fp_fs RJx4a65c nm 48 0 2 (tyJx4a65c 2) := ⟨_, _, _, _, RJx4a65c, cl_Jx4a65c, by decide, tw_i 181 (by rfl) rfl, Or.inl rfl, rfl, Or.inl rfl⟩
set_option maxRecDepth 100000 in
theorem fl_Jx4a65c_63 : fp_fl RJx4a65c 63 0 0 := ⟨_, _, _, _, RJx4a65c, cl_Jx4a65c, by decide, tw_i 183 (by rfl) rfl, Or.inr (tw_i 184 (by rfl) rfl)⟩
set_option maxRecDepth 100000 in
theorem fs_Jx4a65c_63 (nm : String) : fp_fs RJx4a65c nm 63 0 0 (tyJx4a65c 0) := ⟨_, _, _, _, RJx4a65c, cl_Jx4a65c, by decide, tw_i 183 (by rfl) rfl, Or.inr (tw_i 184 (by rfl) rfl), rfl, Or.inl rfl⟩
set_option maxRecDepth 100000 in
theorem ck_J7_2 : Cond.classLink RJ7 2 "java/lang/Object" ∈ fp_tw := tw_i 382 (by rfl) rfl
set_option maxRecDepth 100000 in
theorem ck_J7_110 : Cond.classLink RJ7 110 "[Ljava/lang/Object;" ∈ fp_tw := tw_i 380 (by rfl) rfl
set_option maxRecDepth 100000 in
theorem ck_J7_317 : Cond.classLink RJ7 317 "[I" ∈ fp_tw := tw_i 461 (by rfl) rfl
set_option maxRecDepth 100000 in
theorem kc_J8_200 : Cond.constant RJ8 200 (2147483639) ∈ fp_tw := tw_i 353 (by rfl) rfl
set_option maxRecDepth 100000 in
theorem ca_X5_X5 : Cond.castable RX5 RX5 ∈ fp_tn := tn_i 1087 (by rfl) rfl
set_option maxRecDepth 100000 in
theorem ca_X3_X3 : Cond.castable RX3 RX3 ∈ fp_tn := tn_i 1088 (by rfl) rfl
set_option maxRecDepth 100000 in
theorem ca_X7_X7 : Cond.castable RX7 RX7 ∈ fp_tn := tn_i 1089 (by rfl) rfl
set_option maxRecDepth 100000 in
theorem ca_X0_X0 : Cond.castable RX0 RX0 ∈ fp_tn := tn_i 1090 (by rfl) rfl
set_option maxRecDepth 100000 in
theorem ca_X10_Object : Cond.castable RX10 "java/lang/Object" ∈ fp_tn := tn_i 1094 (by rfl) rfl
set_option maxRecDepth 100000 in
theorem ca_X9_Object : Cond.castable RX9 "java/lang/Object" ∈ fp_tn := tn_i 1095 (by rfl) rfl
set_option maxRecDepth 100000 in
theorem ca_X0_Object : Cond.castable RX0 "java/lang/Object" ∈ fp_tn := tn_i 1096 (by rfl) rfl
set_option maxRecDepth 100000 in
theorem ca_X6_Object : Cond.castable RX6 "java/lang/Object" ∈ fp_tn := tn_i 1097 (by rfl) rfl
set_option maxRecDepth 100000 in
theorem ca_X2_Object : Cond.castable RX2 "java/lang/Object" ∈ fp_tn := tn_i 1098 (by rfl) rfl
set_option maxRecDepth 100000 in
theorem ca_X8_Object : Cond.castable RX8 "java/lang/Object" ∈ fp_tn := tn_i 1099 (by rfl) rfl
set_option maxRecDepth 100000 in
theorem ca_X1_Object : Cond.castable RX1 "java/lang/Object" ∈ fp_tn := tn_i 1100 (by rfl) rfl
set_option maxRecDepth 100000 in
theorem ca_X4_Object : Cond.castable RX4 "java/lang/Object" ∈ fp_tn := tn_i 1101 (by rfl) rfl
set_option maxRecDepth 100000 in
theorem ca_X11_Object : Cond.castable RX11 "java/lang/Object" ∈ fp_tn := tn_i 1102 (by rfl) rfl
set_option maxRecDepth 100000 in
theorem ca_X3_Object : Cond.castable RX3 "java/lang/Object" ∈ fp_tn := tn_i 1103 (by rfl) rfl
set_option maxRecDepth 100000 in
theorem ca_X5_Object : Cond.castable RX5 "java/lang/Object" ∈ fp_tn := tn_i 1104 (by rfl) rfl
set_option maxRecDepth 100000 in
theorem ca_X7_Object : Cond.castable RX7 "java/lang/Object" ∈ fp_tn := tn_i 1105 (by rfl) rfl
set_option maxRecDepth 100000 in
theorem ac_int : Cond.arrayClass .int ∈ fp_tw := tw_i 90 (by rfl) rfl
set_option maxRecDepth 100000 in
theorem ac_long : Cond.arrayClass .long ∈ fp_tw := tw_i 165 (by rfl) rfl
set_option maxRecDepth 100000 in
theorem ac_boolean : Cond.arrayClass .boolean ∈ fp_tw := tw_i 936 (by rfl) rfl
set_option maxRecDepth 100000 in
theorem me_X10_init : fp_me M_X10_init 2 := ⟨tw_i 55 (by rfl) rfl, tw_i 30 (by rfl) rfl, by decide +kernel⟩
set_option maxRecDepth 100000 in
theorem me_J9_min_7cf53 : fp_me M_J9_min_7cf53 2 := ⟨tw_i 61 (by rfl) rfl, tw_i 31 (by rfl) rfl, by decide +kernel⟩
set_option maxRecDepth 100000 in
theorem me_J9_max_7cf53 : fp_me M_J9_max_7cf53 2 := ⟨tw_i 64 (by rfl) rfl, tw_i 31 (by rfl) rfl, by decide +kernel⟩
set_option maxRecDepth 100000 in
theorem me_X9_init : fp_me M_X9_init 0 := ⟨tw_i 69 (by rfl) rfl, tw_i 32 (by rfl) rfl, by decide +kernel⟩
set_option maxRecDepth 100000 in
theorem me_X0_init : fp_me M_X0_init 1 := ⟨tw_i 75 (by rfl) rfl, tw_i 33 (by rfl) rfl, by decide +kernel⟩
set_option maxRecDepth 100000 in
theorem me_X6_init : fp_me M_X6_init 2 := ⟨tw_i 95 (by rfl) rfl, tw_i 34 (by rfl) rfl, by decide +kernel⟩
set_option maxRecDepth 100000 in
theorem me_X2_init : fp_me M_X2_init 2 := ⟨tw_i 128 (by rfl) rfl, tw_i 35 (by rfl) rfl, by decide +kernel⟩
set_option maxRecDepth 100000 in
theorem me_X8_init : fp_me M_X8_init 1 := ⟨tw_i 134 (by rfl) rfl, tw_i 36 (by rfl) rfl, by decide +kernel⟩
set_option maxRecDepth 100000 in
theorem me_Jx4a65c_init_da8c8 : fp_me M_Jx4a65c_init_da8c8 0 := ⟨tw_i 170 (by rfl) rfl, tw_i 39 (by rfl) rfl, by decide +kernel⟩
set_option maxRecDepth 100000 in
theorem me_Jxc12de_init_da8c8 : fp_me M_Jxc12de_init_da8c8 0 := ⟨tw_i 173 (by rfl) rfl, tw_i 38 (by rfl) rfl, by decide +kernel⟩
set_option maxRecDepth 100000 in
theorem me_Jxa1e45_init_da8c8 : fp_me M_Jxa1e45_init_da8c8 0 := ⟨tw_i 176 (by rfl) rfl, tw_i 37 (by rfl) rfl, by decide +kernel⟩
set_option maxRecDepth 100000 in
theorem me_X1_init : fp_me M_X1_init 1 := ⟨tw_i 229 (by rfl) rfl, tw_i 40 (by rfl) rfl, by decide +kernel⟩
set_option maxRecDepth 100000 in
theorem me_X4_init : fp_me M_X4_init 1 := ⟨tw_i 246 (by rfl) rfl, tw_i 41 (by rfl) rfl, by decide +kernel⟩
set_option maxRecDepth 100000 in
theorem me_X10_field : fp_me M_X10_field 3 := ⟨tw_i 299 (by rfl) rfl, tw_i 30 (by rfl) rfl, by decide +kernel⟩
set_option maxRecDepth 100000 in
theorem me_Jx4a65c_size_8abf5 : fp_me M_Jx4a65c_size_8abf5 0 := ⟨tw_i 303 (by rfl) rfl, tw_i 39 (by rfl) rfl, by decide +kernel⟩
set_option maxRecDepth 100000 in
theorem me_X10_isText : fp_me M_X10_isText 1 := ⟨tw_i 306 (by rfl) rfl, tw_i 30 (by rfl) rfl, by decide +kernel⟩
set_option maxRecDepth 100000 in
theorem me_X10_lengthOf : fp_me M_X10_lengthOf 1 := ⟨tw_i 309 (by rfl) rfl, tw_i 30 (by rfl) rfl, by decide +kernel⟩
set_option maxRecDepth 100000 in
theorem me_X3_init : fp_me M_X3_init 3 := ⟨tw_i 315 (by rfl) rfl, tw_i 43 (by rfl) rfl, by decide +kernel⟩
set_option maxRecDepth 100000 in
theorem me_Jx4a65c_add_9ea2d : fp_me M_Jx4a65c_add_9ea2d 1 := ⟨tw_i 336 (by rfl) rfl, tw_i 39 (by rfl) rfl, by decide +kernel⟩
set_option maxRecDepth 100000 in
theorem me_Jx4a65c_add_72be8 : fp_me M_Jx4a65c_add_72be8 3 := ⟨tw_i 340 (by rfl) rfl, tw_i 39 (by rfl) rfl, by decide +kernel⟩
set_option maxRecDepth 100000 in
theorem me_Jx4a65c_grow_d5877 : fp_me M_Jx4a65c_grow_d5877 0 := ⟨tw_i 344 (by rfl) rfl, tw_i 39 (by rfl) rfl, by decide +kernel⟩
set_option maxRecDepth 100000 in
theorem me_Jx4a65c_grow_92f84 : fp_me M_Jx4a65c_grow_92f84 1 := ⟨tw_i 348 (by rfl) rfl, tw_i 39 (by rfl) rfl, by decide +kernel⟩
set_option maxRecDepth 100000 in
theorem me_J8_newLength_cabcc : fp_me M_J8_newLength_cabcc 3 := ⟨tw_i 351 (by rfl) rfl, tw_i 44 (by rfl) rfl, by decide +kernel⟩
set_option maxRecDepth 100000 in
theorem me_J8_hugeLength_7cf53 : fp_me M_J8_hugeLength_7cf53 2 := ⟨tw_i 356 (by rfl) rfl, tw_i 44 (by rfl) rfl, by decide +kernel⟩
set_option maxRecDepth 100000 in
theorem me_J7_copyOf_1904c : fp_me M_J7_copyOf_1904c 2 := ⟨tw_i 359 (by rfl) rfl, tw_i 45 (by rfl) rfl, by decide +kernel⟩
set_option maxRecDepth 100000 in
theorem me_J7_copyOf_6403c : fp_me M_J7_copyOf_6403c 3 := ⟨tw_i 379 (by rfl) rfl, tw_i 45 (by rfl) rfl, by decide +kernel⟩
set_option maxRecDepth 100000 in
theorem me_X10_encode : fp_me M_X10_encode 1 := ⟨tw_i 392 (by rfl) rfl, tw_i 30 (by rfl) rfl, by decide +kernel⟩
set_option maxRecDepth 100000 in
theorem me_X10_laneOf : fp_me M_X10_laneOf 1 := ⟨tw_i 396 (by rfl) rfl, tw_i 30 (by rfl) rfl, by decide +kernel⟩
set_option maxRecDepth 100000 in
theorem me_X9_left : fp_me M_X9_left 0 := ⟨tw_i 400 (by rfl) rfl, tw_i 32 (by rfl) rfl, by decide +kernel⟩
set_option maxRecDepth 100000 in
theorem me_X2_makeSection : fp_me M_X2_makeSection 3 := ⟨tw_i 404 (by rfl) rfl, tw_i 35 (by rfl) rfl, by decide +kernel⟩
set_option maxRecDepth 100000 in
theorem me_X2_isAtRisk : fp_me M_X2_isAtRisk 1 := ⟨tw_i 409 (by rfl) rfl, tw_i 35 (by rfl) rfl, by decide +kernel⟩
set_option maxRecDepth 100000 in
theorem me_Jx4a65c_get_915e3 : fp_me M_Jx4a65c_get_915e3 1 := ⟨tw_i 414 (by rfl) rfl, tw_i 39 (by rfl) rfl, by decide +kernel⟩
set_option maxRecDepth 100000 in
theorem me_J15_checkIndex_7cf53 : fp_me M_J15_checkIndex_7cf53 2 := ⟨tw_i 417 (by rfl) rfl, tw_i 47 (by rfl) rfl, by decide +kernel⟩
set_option maxRecDepth 100000 in
theorem me_J3_checkIndex_8e157 : fp_me M_J3_checkIndex_8e157 3 := ⟨tw_i 420 (by rfl) rfl, tw_i 48 (by rfl) rfl, by decide +kernel⟩
set_option maxRecDepth 100000 in
theorem me_Jx4a65c_elementData_915e3 : fp_me M_Jx4a65c_elementData_915e3 1 := ⟨tw_i 424 (by rfl) rfl, tw_i 39 (by rfl) rfl, by decide +kernel⟩
set_option maxRecDepth 100000 in
theorem me_X2_streamsAtRisk : fp_me M_X2_streamsAtRisk 0 := ⟨tw_i 429 (by rfl) rfl, tw_i 35 (by rfl) rfl, by decide +kernel⟩
set_option maxRecDepth 100000 in
theorem me_X2_putField : fp_me M_X2_putField 2 := ⟨tw_i 434 (by rfl) rfl, tw_i 35 (by rfl) rfl, by decide +kernel⟩
set_option maxRecDepth 100000 in
theorem me_X10_fixedNamed : fp_me M_X10_fixedNamed 1 := ⟨tw_i 437 (by rfl) rfl, tw_i 30 (by rfl) rfl, by decide +kernel⟩
set_option maxRecDepth 100000 in
theorem me_X10_fixedValue : fp_me M_X10_fixedValue 1 := ⟨tw_i 442 (by rfl) rfl, tw_i 30 (by rfl) rfl, by decide +kernel⟩
set_option maxRecDepth 100000 in
theorem me_X0_putNumber : fp_me M_X0_putNumber 3 := ⟨tw_i 447 (by rfl) rfl, tw_i 33 (by rfl) rfl, by decide +kernel⟩
set_option maxRecDepth 100000 in
theorem me_X0_put : fp_me M_X0_put 1 := ⟨tw_i 451 (by rfl) rfl, tw_i 33 (by rfl) rfl, by decide +kernel⟩
set_option maxRecDepth 100000 in
theorem me_J7_copyOf_59c91 : fp_me M_J7_copyOf_59c91 2 := ⟨tw_i 454 (by rfl) rfl, tw_i 45 (by rfl) rfl, by decide +kernel⟩
set_option maxRecDepth 100000 in
theorem me_X2_putLiteral : fp_me M_X2_putLiteral 2 := ⟨tw_i 465 (by rfl) rfl, tw_i 35 (by rfl) rfl, by decide +kernel⟩
set_option maxRecDepth 100000 in
theorem me_X8_lastNamed : fp_me M_X8_lastNamed 1 := ⟨tw_i 469 (by rfl) rfl, tw_i 36 (by rfl) rfl, by decide +kernel⟩
set_option maxRecDepth 100000 in
theorem me_X8_nameAt : fp_me M_X8_nameAt 1 := ⟨tw_i 473 (by rfl) rfl, tw_i 36 (by rfl) rfl, by decide +kernel⟩
set_option maxRecDepth 100000 in
theorem me_X8_has : fp_me M_X8_has 1 := ⟨tw_i 477 (by rfl) rfl, tw_i 36 (by rfl) rfl, by decide +kernel⟩
set_option maxRecDepth 100000 in
theorem me_X2_mayReferTo : fp_me M_X2_mayReferTo 1 := ⟨tw_i 482 (by rfl) rfl, tw_i 35 (by rfl) rfl, by decide +kernel⟩
set_option maxRecDepth 100000 in
theorem me_X2_putNameOf : fp_me M_X2_putNameOf 2 := ⟨tw_i 486 (by rfl) rfl, tw_i 35 (by rfl) rfl, by decide +kernel⟩
set_option maxRecDepth 100000 in
theorem me_X2_noteReference : fp_me M_X2_noteReference 1 := ⟨tw_i 490 (by rfl) rfl, tw_i 35 (by rfl) rfl, by decide +kernel⟩
set_option maxRecDepth 100000 in
theorem me_X0_putText : fp_me M_X0_putText 3 := ⟨tw_i 496 (by rfl) rfl, tw_i 33 (by rfl) rfl, by decide +kernel⟩
set_option maxRecDepth 100000 in
theorem me_X8_lastOf : fp_me M_X8_lastOf 2 := ⟨tw_i 503 (by rfl) rfl, tw_i 36 (by rfl) rfl, by decide +kernel⟩
set_option maxRecDepth 100000 in
theorem me_X8_valueAt : fp_me M_X8_valueAt 1 := ⟨tw_i 507 (by rfl) rfl, tw_i 36 (by rfl) rfl, by decide +kernel⟩
set_option maxRecDepth 100000 in
theorem me_X2_canInsert : fp_me M_X2_canInsert 1 := ⟨tw_i 511 (by rfl) rfl, tw_i 35 (by rfl) rfl, by decide +kernel⟩
set_option maxRecDepth 100000 in
theorem me_X10_sizeOf : fp_me M_X10_sizeOf 2 := ⟨tw_i 514 (by rfl) rfl, tw_i 30 (by rfl) rfl, by decide +kernel⟩
set_option maxRecDepth 100000 in
theorem me_X8_firstBeside : fp_me M_X8_firstBeside 1 := ⟨tw_i 518 (by rfl) rfl, tw_i 36 (by rfl) rfl, by decide +kernel⟩
set_option maxRecDepth 100000 in
theorem me_X2_firstBusy : fp_me M_X2_firstBusy 0 := ⟨tw_i 522 (by rfl) rfl, tw_i 35 (by rfl) rfl, by decide +kernel⟩
set_option maxRecDepth 100000 in
theorem me_X2_insert : fp_me M_X2_insert 3 := ⟨tw_i 526 (by rfl) rfl, tw_i 35 (by rfl) rfl, by decide +kernel⟩
set_option maxRecDepth 100000 in
theorem me_X8_insert : fp_me M_X8_insert 2 := ⟨tw_i 530 (by rfl) rfl, tw_i 36 (by rfl) rfl, by decide +kernel⟩
set_option maxRecDepth 100000 in
theorem me_X2_putEntry : fp_me M_X2_putEntry 1 := ⟨tw_i 536 (by rfl) rfl, tw_i 35 (by rfl) rfl, by decide +kernel⟩
set_option maxRecDepth 100000 in
theorem me_X5_init : fp_me M_X5_init 3 := ⟨tw_i 540 (by rfl) rfl, tw_i 49 (by rfl) rfl, by decide +kernel⟩
set_option maxRecDepth 100000 in
theorem me_X2_putFront : fp_me M_X2_putFront 1 := ⟨tw_i 559 (by rfl) rfl, tw_i 35 (by rfl) rfl, by decide +kernel⟩
set_option maxRecDepth 100000 in
theorem me_X0_putAll : fp_me M_X0_putAll 1 := ⟨tw_i 563 (by rfl) rfl, tw_i 33 (by rfl) rfl, by decide +kernel⟩
set_option maxRecDepth 100000 in
theorem me_X0_at : fp_me M_X0_at 1 := ⟨tw_i 567 (by rfl) rfl, tw_i 33 (by rfl) rfl, by decide +kernel⟩
set_option maxRecDepth 100000 in
theorem me_Jx4a65c_clear_da8c8 : fp_me M_Jx4a65c_clear_da8c8 0 := ⟨tw_i 571 (by rfl) rfl, tw_i 39 (by rfl) rfl, by decide +kernel⟩
set_option maxRecDepth 100000 in
theorem me_X10_move : fp_me M_X10_move 2 := ⟨tw_i 575 (by rfl) rfl, tw_i 30 (by rfl) rfl, by decide +kernel⟩
set_option maxRecDepth 100000 in
theorem me_X9_bring : fp_me M_X9_bring 1 := ⟨tw_i 579 (by rfl) rfl, tw_i 32 (by rfl) rfl, by decide +kernel⟩
set_option maxRecDepth 100000 in
theorem me_X2_hear : fp_me M_X2_hear 1 := ⟨tw_i 585 (by rfl) rfl, tw_i 35 (by rfl) rfl, by decide +kernel⟩
set_option maxRecDepth 100000 in
theorem me_X6_left : fp_me M_X6_left 0 := ⟨tw_i 589 (by rfl) rfl, tw_i 34 (by rfl) rfl, by decide +kernel⟩
set_option maxRecDepth 100000 in
theorem me_X2_hearOne : fp_me M_X2_hearOne 1 := ⟨tw_i 593 (by rfl) rfl, tw_i 35 (by rfl) rfl, by decide +kernel⟩
set_option maxRecDepth 100000 in
theorem me_X6_front : fp_me M_X6_front 0 := ⟨tw_i 597 (by rfl) rfl, tw_i 34 (by rfl) rfl, by decide +kernel⟩
set_option maxRecDepth 100000 in
theorem me_X6_takeNumber : fp_me M_X6_takeNumber 1 := ⟨tw_i 601 (by rfl) rfl, tw_i 34 (by rfl) rfl, by decide +kernel⟩
set_option maxRecDepth 100000 in
theorem me_X6_take : fp_me M_X6_take 0 := ⟨tw_i 605 (by rfl) rfl, tw_i 34 (by rfl) rfl, by decide +kernel⟩
set_option maxRecDepth 100000 in
theorem me_X6_rewind : fp_me M_X6_rewind 1 := ⟨tw_i 609 (by rfl) rfl, tw_i 34 (by rfl) rfl, by decide +kernel⟩
set_option maxRecDepth 100000 in
theorem me_X2_closeOldest : fp_me M_X2_closeOldest 1 := ⟨tw_i 613 (by rfl) rfl, tw_i 35 (by rfl) rfl, by decide +kernel⟩
set_option maxRecDepth 100000 in
theorem me_Jx4a65c_remove_915e3 : fp_me M_Jx4a65c_remove_915e3 1 := ⟨tw_i 617 (by rfl) rfl, tw_i 39 (by rfl) rfl, by decide +kernel⟩
set_option maxRecDepth 100000 in
theorem me_Jx4a65c_fastRemove_b59b0 : fp_me M_Jx4a65c_fastRemove_b59b0 2 := ⟨tw_i 621 (by rfl) rfl, tw_i 39 (by rfl) rfl, by decide +kernel⟩
set_option maxRecDepth 100000 in
theorem me_X2_closeAll : fp_me M_X2_closeAll 1 := ⟨tw_i 626 (by rfl) rfl, tw_i 35 (by rfl) rfl, by decide +kernel⟩
set_option maxRecDepth 100000 in
theorem me_X1_obey : fp_me M_X1_obey 1 := ⟨tw_i 630 (by rfl) rfl, tw_i 40 (by rfl) rfl, by decide +kernel⟩
set_option maxRecDepth 100000 in
theorem me_X1_obeyOne : fp_me M_X1_obeyOne 1 := ⟨tw_i 635 (by rfl) rfl, tw_i 40 (by rfl) rfl, by decide +kernel⟩
set_option maxRecDepth 100000 in
theorem me_X1_takeName : fp_me M_X1_takeName 1 := ⟨tw_i 639 (by rfl) rfl, tw_i 40 (by rfl) rfl, by decide +kernel⟩
set_option maxRecDepth 100000 in
theorem me_X6_takeText : fp_me M_X6_takeText 1 := ⟨tw_i 646 (by rfl) rfl, tw_i 34 (by rfl) rfl, by decide +kernel⟩
set_option maxRecDepth 100000 in
theorem me_X1_release : fp_me M_X1_release 2 := ⟨tw_i 654 (by rfl) rfl, tw_i 40 (by rfl) rfl, by decide +kernel⟩
set_option maxRecDepth 100000 in
theorem me_X1_readLines : fp_me M_X1_readLines 1 := ⟨tw_i 662 (by rfl) rfl, tw_i 40 (by rfl) rfl, by decide +kernel⟩
set_option maxRecDepth 100000 in
theorem me_X1_readLine : fp_me M_X1_readLine 2 := ⟨tw_i 666 (by rfl) rfl, tw_i 40 (by rfl) rfl, by decide +kernel⟩
set_option maxRecDepth 100000 in
theorem me_X1_fieldAt : fp_me M_X1_fieldAt 1 := ⟨tw_i 673 (by rfl) rfl, tw_i 40 (by rfl) rfl, by decide +kernel⟩
set_option maxRecDepth 100000 in
theorem me_X10_deliver : fp_me M_X10_deliver 1 := ⟨tw_i 681 (by rfl) rfl, tw_i 30 (by rfl) rfl, by decide +kernel⟩
set_option maxRecDepth 100000 in
theorem me_Jx4a65c_isEmpty_aae02 : fp_me M_Jx4a65c_isEmpty_aae02 0 := ⟨tw_i 685 (by rfl) rfl, tw_i 39 (by rfl) rfl, by decide +kernel⟩
set_option maxRecDepth 100000 in
theorem me_X1_receive : fp_me M_X1_receive 1 := ⟨tw_i 691 (by rfl) rfl, tw_i 40 (by rfl) rfl, by decide +kernel⟩
set_option maxRecDepth 100000 in
theorem me_X1_requiredBy : fp_me M_X1_requiredBy 1 := ⟨tw_i 698 (by rfl) rfl, tw_i 40 (by rfl) rfl, by decide +kernel⟩
set_option maxRecDepth 100000 in
theorem me_J9_floorMod_7cf53 : fp_me M_J9_floorMod_7cf53 2 := ⟨tw_i 701 (by rfl) rfl, tw_i 31 (by rfl) rfl, by decide +kernel⟩
set_option maxRecDepth 100000 in
theorem me_X7_init : fp_me M_X7_init 2 := ⟨tw_i 704 (by rfl) rfl, tw_i 50 (by rfl) rfl, by decide +kernel⟩
set_option maxRecDepth 100000 in
theorem me_X10_increment : fp_me M_X10_increment 0 := ⟨tw_i 725 (by rfl) rfl, tw_i 30 (by rfl) rfl, by decide +kernel⟩
set_option maxRecDepth 100000 in
theorem me_X1_tellCome : fp_me M_X1_tellCome 1 := ⟨tw_i 729 (by rfl) rfl, tw_i 40 (by rfl) rfl, by decide +kernel⟩
set_option maxRecDepth 100000 in
theorem me_X10_cancel : fp_me M_X10_cancel 1 := ⟨tw_i 733 (by rfl) rfl, tw_i 30 (by rfl) rfl, by decide +kernel⟩
set_option maxRecDepth 100000 in
theorem me_X10_waiting : fp_me M_X10_waiting 1 := ⟨tw_i 738 (by rfl) rfl, tw_i 30 (by rfl) rfl, by decide +kernel⟩
set_option maxRecDepth 100000 in
theorem me_X10_nextSection : fp_me M_X10_nextSection 1 := ⟨tw_i 742 (by rfl) rfl, tw_i 30 (by rfl) rfl, by decide +kernel⟩
set_option maxRecDepth 100000 in
theorem me_X10_look : fp_me M_X10_look 2 := ⟨tw_i 747 (by rfl) rfl, tw_i 30 (by rfl) rfl, by decide +kernel⟩
set_option maxRecDepth 100000 in
theorem me_X9_at : fp_me M_X9_at 1 := ⟨tw_i 751 (by rfl) rfl, tw_i 32 (by rfl) rfl, by decide +kernel⟩
set_option maxRecDepth 100000 in
theorem me_X10_told : fp_me M_X10_told 2 := ⟨tw_i 757 (by rfl) rfl, tw_i 30 (by rfl) rfl, by decide +kernel⟩
set_option maxRecDepth 100000 in
theorem me_X10_tableOf : fp_me M_X10_tableOf 1 := ⟨tw_i 761 (by rfl) rfl, tw_i 30 (by rfl) rfl, by decide +kernel⟩
set_option maxRecDepth 100000 in
theorem me_X10_toldByEncoder : fp_me M_X10_toldByEncoder 1 := ⟨tw_i 765 (by rfl) rfl, tw_i 30 (by rfl) rfl, by decide +kernel⟩
set_option maxRecDepth 100000 in
theorem me_X10_toldByDecoder : fp_me M_X10_toldByDecoder 1 := ⟨tw_i 770 (by rfl) rfl, tw_i 30 (by rfl) rfl, by decide +kernel⟩
set_option maxRecDepth 100000 in
theorem me_X10_entry : fp_me M_X10_entry 3 := ⟨tw_i 774 (by rfl) rfl, tw_i 30 (by rfl) rfl, by decide +kernel⟩
set_option maxRecDepth 100000 in
theorem me_X10_sections : fp_me M_X10_sections 1 := ⟨tw_i 781 (by rfl) rfl, tw_i 30 (by rfl) rfl, by decide +kernel⟩
set_option maxRecDepth 100000 in
theorem me_X10_decoded : fp_me M_X10_decoded 4 := ⟨tw_i 785 (by rfl) rfl, tw_i 30 (by rfl) rfl, by decide +kernel⟩
set_option maxRecDepth 100000 in
theorem me_L_cell : fp_me M_L_cell 2 := ⟨tw_i 789 (by rfl) rfl, tw_i 29 (by rfl) rfl, by decide +kernel⟩
set_option maxRecDepth 100000 in
theorem me_X11_init : fp_me M_X11_init 2 := ⟨tw_i 794 (by rfl) rfl, tw_i 42 (by rfl) rfl, by decide +kernel⟩
set_option maxRecDepth 100000 in
theorem me_X11_field : fp_me M_X11_field 3 := ⟨tw_i 940 (by rfl) rfl, tw_i 42 (by rfl) rfl, by decide +kernel⟩
set_option maxRecDepth 100000 in
theorem me_X11_isWhole : fp_me M_X11_isWhole 1 := ⟨tw_i 943 (by rfl) rfl, tw_i 42 (by rfl) rfl, by decide +kernel⟩
set_option maxRecDepth 100000 in
theorem me_X11_length : fp_me M_X11_length 1 := ⟨tw_i 946 (by rfl) rfl, tw_i 42 (by rfl) rfl, by decide +kernel⟩
set_option maxRecDepth 100000 in
theorem me_X11_encode : fp_me M_X11_encode 1 := ⟨tw_i 951 (by rfl) rfl, tw_i 42 (by rfl) rfl, by decide +kernel⟩
set_option maxRecDepth 100000 in
theorem me_X11_lying : fp_me M_X11_lying 2 := ⟨tw_i 955 (by rfl) rfl, tw_i 42 (by rfl) rfl, by decide +kernel⟩
set_option maxRecDepth 100000 in
theorem me_X11_isAtRisk : fp_me M_X11_isAtRisk 1 := ⟨tw_i 959 (by rfl) rfl, tw_i 42 (by rfl) rfl, by decide +kernel⟩
set_option maxRecDepth 100000 in
theorem me_X11_atRisk : fp_me M_X11_atRisk 0 := ⟨tw_i 963 (by rfl) rfl, tw_i 42 (by rfl) rfl, by decide +kernel⟩
set_option maxRecDepth 100000 in
theorem me_X11_one : fp_me M_X11_one 3 := ⟨tw_i 967 (by rfl) rfl, tw_i 42 (by rfl) rfl, by decide +kernel⟩
set_option maxRecDepth 100000 in
theorem me_X11_fixedName : fp_me M_X11_fixedName 1 := ⟨tw_i 970 (by rfl) rfl, tw_i 42 (by rfl) rfl, by decide +kernel⟩
set_option maxRecDepth 100000 in
theorem me_X11_fixedValue : fp_me M_X11_fixedValue 1 := ⟨tw_i 975 (by rfl) rfl, tw_i 42 (by rfl) rfl, by decide +kernel⟩
set_option maxRecDepth 100000 in
theorem me_X11_number : fp_me M_X11_number 4 := ⟨tw_i 980 (by rfl) rfl, tw_i 42 (by rfl) rfl, by decide +kernel⟩
set_option maxRecDepth 100000 in
theorem me_X11_lay : fp_me M_X11_lay 2 := ⟨tw_i 984 (by rfl) rfl, tw_i 42 (by rfl) rfl, by decide +kernel⟩
set_option maxRecDepth 100000 in
theorem me_X11_last : fp_me M_X11_last 3 := ⟨tw_i 988 (by rfl) rfl, tw_i 42 (by rfl) rfl, by decide +kernel⟩
set_option maxRecDepth 100000 in
theorem me_X11_whole : fp_me M_X11_whole 2 := ⟨tw_i 992 (by rfl) rfl, tw_i 42 (by rfl) rfl, by decide +kernel⟩
set_option maxRecDepth 100000 in
theorem me_X11_refer : fp_me M_X11_refer 1 := ⟨tw_i 996 (by rfl) rfl, tw_i 42 (by rfl) rfl, by decide +kernel⟩
set_option maxRecDepth 100000 in
theorem me_X11_sizeOf : fp_me M_X11_sizeOf 2 := ⟨tw_i 999 (by rfl) rfl, tw_i 42 (by rfl) rfl, by decide +kernel⟩
set_option maxRecDepth 100000 in
theorem me_X11_mayInsert : fp_me M_X11_mayInsert 1 := ⟨tw_i 1003 (by rfl) rfl, tw_i 42 (by rfl) rfl, by decide +kernel⟩
set_option maxRecDepth 100000 in
theorem me_X11_isBusy : fp_me M_X11_isBusy 1 := ⟨tw_i 1007 (by rfl) rfl, tw_i 42 (by rfl) rfl, by decide +kernel⟩
set_option maxRecDepth 100000 in
theorem me_X11_insert : fp_me M_X11_insert 2 := ⟨tw_i 1011 (by rfl) rfl, tw_i 42 (by rfl) rfl, by decide +kernel⟩
set_option maxRecDepth 100000 in
theorem me_X11_text : fp_me M_X11_text 4 := ⟨tw_i 1015 (by rfl) rfl, tw_i 42 (by rfl) rfl, by decide +kernel⟩
set_option maxRecDepth 100000 in
theorem me_X11_move : fp_me M_X11_move 2 := ⟨tw_i 1019 (by rfl) rfl, tw_i 42 (by rfl) rfl, by decide +kernel⟩
set_option maxRecDepth 100000 in
theorem me_X11_hear : fp_me M_X11_hear 2 := ⟨tw_i 1023 (by rfl) rfl, tw_i 42 (by rfl) rfl, by decide +kernel⟩
set_option maxRecDepth 100000 in
theorem me_X11_goOn : fp_me M_X11_goOn 1 := ⟨tw_i 1027 (by rfl) rfl, tw_i 42 (by rfl) rfl, by decide +kernel⟩
set_option maxRecDepth 100000 in
theorem me_X11_decode : fp_me M_X11_decode 1 := ⟨tw_i 1031 (by rfl) rfl, tw_i 42 (by rfl) rfl, by decide +kernel⟩
set_option maxRecDepth 100000 in
theorem me_X11_tell : fp_me M_X11_tell 2 := ⟨tw_i 1035 (by rfl) rfl, tw_i 42 (by rfl) rfl, by decide +kernel⟩
set_option maxRecDepth 100000 in
theorem me_X11_deliver : fp_me M_X11_deliver 1 := ⟨tw_i 1039 (by rfl) rfl, tw_i 42 (by rfl) rfl, by decide +kernel⟩
set_option maxRecDepth 100000 in
theorem me_X11_next : fp_me M_X11_next 1 := ⟨tw_i 1043 (by rfl) rfl, tw_i 42 (by rfl) rfl, by decide +kernel⟩
set_option maxRecDepth 100000 in
theorem me_X11_increment : fp_me M_X11_increment 0 := ⟨tw_i 1047 (by rfl) rfl, tw_i 42 (by rfl) rfl, by decide +kernel⟩
set_option maxRecDepth 100000 in
theorem me_X11_cancel : fp_me M_X11_cancel 1 := ⟨tw_i 1051 (by rfl) rfl, tw_i 42 (by rfl) rfl, by decide +kernel⟩
set_option maxRecDepth 100000 in
theorem me_X11_waiting : fp_me M_X11_waiting 1 := ⟨tw_i 1055 (by rfl) rfl, tw_i 42 (by rfl) rfl, by decide +kernel⟩
set_option maxRecDepth 100000 in
theorem me_X11_look : fp_me M_X11_look 2 := ⟨tw_i 1059 (by rfl) rfl, tw_i 42 (by rfl) rfl, by decide +kernel⟩
set_option maxRecDepth 100000 in
theorem me_X11_told : fp_me M_X11_told 2 := ⟨tw_i 1064 (by rfl) rfl, tw_i 42 (by rfl) rfl, by decide +kernel⟩
set_option maxRecDepth 100000 in
theorem me_X11_opens : fp_me M_X11_opens 0 := ⟨tw_i 1068 (by rfl) rfl, tw_i 42 (by rfl) rfl, by decide +kernel⟩
set_option maxRecDepth 100000 in
theorem me_X11_waits : fp_me M_X11_waits 1 := ⟨tw_i 1072 (by rfl) rfl, tw_i 42 (by rfl) rfl, by decide +kernel⟩
set_option maxRecDepth 100000 in
theorem me_X11_entry : fp_me M_X11_entry 3 := ⟨tw_i 1076 (by rfl) rfl, tw_i 42 (by rfl) rfl, by decide +kernel⟩
set_option maxRecDepth 100000 in
theorem me_X11_sections : fp_me M_X11_sections 1 := ⟨tw_i 1081 (by rfl) rfl, tw_i 42 (by rfl) rfl, by decide +kernel⟩
set_option maxRecDepth 100000 in
theorem me_X11_decoded : fp_me M_X11_decoded 4 := ⟨tw_i 1085 (by rfl) rfl, tw_i 42 (by rfl) rfl, by decide +kernel⟩
set_option maxRecDepth 100000 in
theorem cw_X10_1 : Cond.methodLink RX10 1 Lib.objectInit ∈ fp_tw ∧ Cond.instanceMethod Lib.objectInit ∈ fp_tw ∧ Cond.code Lib.objectInit ⟨#[0xb1]⟩ 1 none ∈ fp_tw := ⟨tw_i 56 (by rfl) rfl, tw_i 57 (by rfl) rfl, tw_i 58 (by rfl) rfl⟩
set_option maxRecDepth 100000 in
theorem cw_X10_9 : Cond.methodLink RX10 9 yJ9_min_7cf53 ∈ fp_tw ∧ Cond.static yJ9_min_7cf53 ∈ fp_tw := ⟨tw_i 59 (by rfl) rfl, tw_i 60 (by rfl) rfl⟩
set_option maxRecDepth 100000 in
theorem cw_X10_15 : Cond.methodLink RX10 15 yJ9_max_7cf53 ∈ fp_tw ∧ Cond.static yJ9_max_7cf53 ∈ fp_tw := ⟨tw_i 62 (by rfl) rfl, tw_i 63 (by rfl) rfl⟩
set_option maxRecDepth 100000 in
theorem cw_X10_20 : Cond.methodLink RX10 20 yX9_init ∈ fp_tw ∧ Cond.instanceMethod yX9_init ∈ fp_tw := ⟨tw_i 67 (by rfl) rfl, tw_i 68 (by rfl) rfl⟩
set_option maxRecDepth 100000 in
theorem cw_X10_30 : Cond.methodLink RX10 30 yX2_init ∈ fp_tw ∧ Cond.instanceMethod yX2_init ∈ fp_tw := ⟨tw_i 126 (by rfl) rfl, tw_i 127 (by rfl) rfl⟩
set_option maxRecDepth 100000 in
theorem cw_X10_39 : Cond.methodLink RX10 39 yX1_init ∈ fp_tw ∧ Cond.instanceMethod yX1_init ∈ fp_tw := ⟨tw_i 227 (by rfl) rfl, tw_i 228 (by rfl) rfl⟩
set_option maxRecDepth 100000 in
theorem cw_X10_52 : Cond.methodLink RX10 52 yX4_init ∈ fp_tw ∧ Cond.instanceMethod yX4_init ∈ fp_tw := ⟨tw_i 244 (by rfl) rfl, tw_i 245 (by rfl) rfl⟩
set_option maxRecDepth 100000 in
theorem cw_X10_55 : Cond.methodLink RX10 55 yJx4a65c_init_da8c8 ∈ fp_tw ∧ Cond.instanceMethod yJx4a65c_init_da8c8 ∈ fp_tw := ⟨tw_i 273 (by rfl) rfl, tw_i 169 (by rfl) rfl⟩
set_option maxRecDepth 100000 in
theorem cw_X10_60 : Cond.methodLink RX10 60 yJx4a65c_size_8abf5 ∈ fp_tw ∧ Cond.instanceMethod yJx4a65c_size_8abf5 ∈ fp_tw ∧ Cond.selects RJx4a65c yJx4a65c_size_8abf5 yJx4a65c_size_8abf5 ∈ fp_tw := ⟨tw_i 300 (by rfl) rfl, tw_i 301 (by rfl) rfl, tw_i 302 (by rfl) rfl⟩
set_option maxRecDepth 100000 in
theorem cw_X10_64 : Cond.methodLink RX10 64 yX10_isText ∈ fp_tw ∧ Cond.static yX10_isText ∈ fp_tw := ⟨tw_i 304 (by rfl) rfl, tw_i 305 (by rfl) rfl⟩
set_option maxRecDepth 100000 in
theorem cw_X10_70 : Cond.methodLink RX10 70 yX3_init ∈ fp_tw ∧ Cond.instanceMethod yX3_init ∈ fp_tw := ⟨tw_i 313 (by rfl) rfl, tw_i 314 (by rfl) rfl⟩
set_option maxRecDepth 100000 in
theorem cw_X10_73 : Cond.methodLink RX10 73 yJx4a65c_add_9ea2d ∈ fp_tw ∧ Cond.instanceMethod yJx4a65c_add_9ea2d ∈ fp_tw ∧ Cond.selects RJx4a65c yJx4a65c_add_9ea2d yJx4a65c_add_9ea2d ∈ fp_tw := ⟨tw_i 333 (by rfl) rfl, tw_i 334 (by rfl) rfl, tw_i 335 (by rfl) rfl⟩
set_option maxRecDepth 100000 in
theorem cw_X10_77 : Cond.methodLink RX10 77 yX10_laneOf ∈ fp_tw ∧ Cond.instanceMethod yX10_laneOf ∈ fp_tw ∧ Cond.selects RX10 yX10_laneOf yX10_laneOf ∈ fp_tw := ⟨tw_i 393 (by rfl) rfl, tw_i 395 (by rfl) rfl, tw_i 3 (by rfl) rfl⟩
set_option maxRecDepth 100000 in
theorem cw_X10_92 : Cond.methodLink RX10 92 yX9_left ∈ fp_tw ∧ Cond.instanceMethod yX9_left ∈ fp_tw ∧ Cond.selects RX9 yX9_left yX9_left ∈ fp_tw := ⟨tw_i 397 (by rfl) rfl, tw_i 398 (by rfl) rfl, tw_i 399 (by rfl) rfl⟩
set_option maxRecDepth 100000 in
theorem cw_X10_99 : Cond.methodLink RX10 99 yX2_makeSection ∈ fp_tw ∧ Cond.instanceMethod yX2_makeSection ∈ fp_tw ∧ Cond.selects RX2 yX2_makeSection yX2_makeSection ∈ fp_tw := ⟨tw_i 401 (by rfl) rfl, tw_i 402 (by rfl) rfl, tw_i 403 (by rfl) rfl⟩
set_option maxRecDepth 100000 in
theorem cw_X10_103 : Cond.methodLink RX10 103 yJx4a65c_clear_da8c8 ∈ fp_tw ∧ Cond.instanceMethod yJx4a65c_clear_da8c8 ∈ fp_tw ∧ Cond.selects RJx4a65c yJx4a65c_clear_da8c8 yJx4a65c_clear_da8c8 ∈ fp_tw := ⟨tw_i 568 (by rfl) rfl, tw_i 569 (by rfl) rfl, tw_i 570 (by rfl) rfl⟩
set_option maxRecDepth 100000 in
theorem cw_X10_110 : Cond.methodLink RX10 110 yX9_bring ∈ fp_tw ∧ Cond.instanceMethod yX9_bring ∈ fp_tw ∧ Cond.selects RX9 yX9_bring yX9_bring ∈ fp_tw := ⟨tw_i 576 (by rfl) rfl, tw_i 577 (by rfl) rfl, tw_i 578 (by rfl) rfl⟩
set_option maxRecDepth 100000 in
theorem cw_X10_118 : Cond.methodLink RX10 118 yX2_hear ∈ fp_tw ∧ Cond.instanceMethod yX2_hear ∈ fp_tw ∧ Cond.selects RX2 yX2_hear yX2_hear ∈ fp_tw := ⟨tw_i 582 (by rfl) rfl, tw_i 583 (by rfl) rfl, tw_i 584 (by rfl) rfl⟩
set_option maxRecDepth 100000 in
theorem cw_X10_122 : Cond.methodLink RX10 122 yX1_obey ∈ fp_tw ∧ Cond.instanceMethod yX1_obey ∈ fp_tw ∧ Cond.selects RX1 yX1_obey yX1_obey ∈ fp_tw := ⟨tw_i 627 (by rfl) rfl, tw_i 628 (by rfl) rfl, tw_i 629 (by rfl) rfl⟩
set_option maxRecDepth 100000 in
theorem cw_X10_125 : Cond.methodLink RX10 125 yX1_release ∈ fp_tw ∧ Cond.instanceMethod yX1_release ∈ fp_tw ∧ Cond.selects RX1 yX1_release yX1_release ∈ fp_tw := ⟨tw_i 651 (by rfl) rfl, tw_i 652 (by rfl) rfl, tw_i 653 (by rfl) rfl⟩
set_option maxRecDepth 100000 in
theorem cw_X10_129 : Cond.methodLink RX10 129 yJx4a65c_isEmpty_aae02 ∈ fp_tw ∧ Cond.instanceMethod yJx4a65c_isEmpty_aae02 ∈ fp_tw ∧ Cond.selects RJx4a65c yJx4a65c_isEmpty_aae02 yJx4a65c_isEmpty_aae02 ∈ fp_tw := ⟨tw_i 682 (by rfl) rfl, tw_i 683 (by rfl) rfl, tw_i 684 (by rfl) rfl⟩
set_option maxRecDepth 100000 in
theorem cw_X10_136 : Cond.methodLink RX10 136 yJx4a65c_remove_915e3 ∈ fp_tw ∧ Cond.instanceMethod yJx4a65c_remove_915e3 ∈ fp_tw ∧ Cond.selects RJx4a65c yJx4a65c_remove_915e3 yJx4a65c_remove_915e3 ∈ fp_tw := ⟨tw_i 686 (by rfl) rfl, tw_i 615 (by rfl) rfl, tw_i 616 (by rfl) rfl⟩
set_option maxRecDepth 100000 in
theorem cw_X10_140 : Cond.methodLink RX10 140 yX1_receive ∈ fp_tw ∧ Cond.instanceMethod yX1_receive ∈ fp_tw ∧ Cond.selects RX1 yX1_receive yX1_receive ∈ fp_tw := ⟨tw_i 688 (by rfl) rfl, tw_i 689 (by rfl) rfl, tw_i 690 (by rfl) rfl⟩
set_option maxRecDepth 100000 in
theorem cw_X10_144 : Cond.methodLink RX10 144 yX1_tellCome ∈ fp_tw ∧ Cond.instanceMethod yX1_tellCome ∈ fp_tw ∧ Cond.selects RX1 yX1_tellCome yX1_tellCome ∈ fp_tw := ⟨tw_i 726 (by rfl) rfl, tw_i 727 (by rfl) rfl, tw_i 728 (by rfl) rfl⟩
set_option maxRecDepth 100000 in
theorem cw_X10_148 : Cond.methodLink RX10 148 yX0_putNumber ∈ fp_tw ∧ Cond.instanceMethod yX0_putNumber ∈ fp_tw ∧ Cond.selects RX0 yX0_putNumber yX0_putNumber ∈ fp_tw := ⟨tw_i 734 (by rfl) rfl, tw_i 445 (by rfl) rfl, tw_i 446 (by rfl) rfl⟩
set_option maxRecDepth 100000 in
theorem cw_X10_152 : Cond.methodLink RX10 152 yX10_nextSection ∈ fp_tw ∧ Cond.instanceMethod yX10_nextSection ∈ fp_tw ∧ Cond.selects RX10 yX10_nextSection yX10_nextSection ∈ fp_tw := ⟨tw_i 739 (by rfl) rfl, tw_i 741 (by rfl) rfl, tw_i 5 (by rfl) rfl⟩
set_option maxRecDepth 100000 in
theorem cw_X10_156 : Cond.methodLink RX10 156 yX9_at ∈ fp_tw ∧ Cond.instanceMethod yX9_at ∈ fp_tw ∧ Cond.selects RX9 yX9_at yX9_at ∈ fp_tw := ⟨tw_i 748 (by rfl) rfl, tw_i 749 (by rfl) rfl, tw_i 750 (by rfl) rfl⟩
set_option maxRecDepth 100000 in
theorem cw_X10_159 : Cond.methodLink RX10 159 yX0_at ∈ fp_tw ∧ Cond.instanceMethod yX0_at ∈ fp_tw ∧ Cond.selects RX0 yX0_at yX0_at ∈ fp_tw := ⟨tw_i 753 (by rfl) rfl, tw_i 565 (by rfl) rfl, tw_i 566 (by rfl) rfl⟩
set_option maxRecDepth 100000 in
theorem cw_X10_160 : Cond.methodLink RX10 160 yX10_tableOf ∈ fp_tw ∧ Cond.instanceMethod yX10_tableOf ∈ fp_tw ∧ Cond.selects RX10 yX10_tableOf yX10_tableOf ∈ fp_tw := ⟨tw_i 758 (by rfl) rfl, tw_i 760 (by rfl) rfl, tw_i 6 (by rfl) rfl⟩
set_option maxRecDepth 100000 in
theorem cw_X10_173 : Cond.methodLink RX10 173 yX10_toldByEncoder ∈ fp_tw ∧ Cond.instanceMethod yX10_toldByEncoder ∈ fp_tw ∧ Cond.selects RX10 yX10_toldByEncoder yX10_toldByEncoder ∈ fp_tw := ⟨tw_i 762 (by rfl) rfl, tw_i 764 (by rfl) rfl, tw_i 7 (by rfl) rfl⟩
set_option maxRecDepth 100000 in
theorem cw_X10_176 : Cond.methodLink RX10 176 yX10_toldByDecoder ∈ fp_tw ∧ Cond.instanceMethod yX10_toldByDecoder ∈ fp_tw ∧ Cond.selects RX10 yX10_toldByDecoder yX10_toldByDecoder ∈ fp_tw := ⟨tw_i 767 (by rfl) rfl, tw_i 769 (by rfl) rfl, tw_i 8 (by rfl) rfl⟩
set_option maxRecDepth 100000 in
theorem cw_X10_181 : Cond.methodLink RX10 181 yX8_nameAt ∈ fp_tw ∧ Cond.instanceMethod yX8_nameAt ∈ fp_tw ∧ Cond.selects RX8 yX8_nameAt yX8_nameAt ∈ fp_tw := ⟨tw_i 776 (by rfl) rfl, tw_i 471 (by rfl) rfl, tw_i 472 (by rfl) rfl⟩
set_option maxRecDepth 100000 in
theorem cw_X10_185 : Cond.methodLink RX10 185 yX8_valueAt ∈ fp_tw ∧ Cond.instanceMethod yX8_valueAt ∈ fp_tw ∧ Cond.selects RX8 yX8_valueAt yX8_valueAt ∈ fp_tw := ⟨tw_i 777 (by rfl) rfl, tw_i 505 (by rfl) rfl, tw_i 506 (by rfl) rfl⟩
set_option maxRecDepth 100000 in
theorem cw_X10_191 : Cond.methodLink RX10 191 yJx4a65c_get_915e3 ∈ fp_tw ∧ Cond.instanceMethod yJx4a65c_get_915e3 ∈ fp_tw ∧ Cond.selects RJx4a65c yJx4a65c_get_915e3 yJx4a65c_get_915e3 ∈ fp_tw := ⟨tw_i 743 (by rfl) rfl, tw_i 412 (by rfl) rfl, tw_i 413 (by rfl) rfl⟩
set_option maxRecDepth 100000 in
theorem cw_X10_220 : Cond.methodLink RX10 220 yX2_streamsAtRisk ∈ fp_tw ∧ Cond.instanceMethod yX2_streamsAtRisk ∈ fp_tw ∧ Cond.selects RX2 yX2_streamsAtRisk yX2_streamsAtRisk ∈ fp_tw := ⟨tw_i 766 (by rfl) rfl, tw_i 427 (by rfl) rfl, tw_i 428 (by rfl) rfl⟩
set_option maxRecDepth 100000 in
theorem cw_X10_223 : Cond.methodLink RX10 223 yX10_lengthOf ∈ fp_tw ∧ Cond.static yX10_lengthOf ∈ fp_tw := ⟨tw_i 307 (by rfl) rfl, tw_i 308 (by rfl) rfl⟩
set_option maxRecDepth 100000 in
theorem cw_X0_3 : Cond.methodLink RX0 3 Lib.objectInit ∈ fp_tw ∧ Cond.instanceMethod Lib.objectInit ∈ fp_tw ∧ Cond.code Lib.objectInit ⟨#[0xb1]⟩ 1 none ∈ fp_tw := ⟨tw_i 76 (by rfl) rfl, tw_i 57 (by rfl) rfl, tw_i 58 (by rfl) rfl⟩
set_option maxRecDepth 100000 in
theorem cw_X0_9 : Cond.methodLink RX0 9 yJ9_max_7cf53 ∈ fp_tw ∧ Cond.static yJ9_max_7cf53 ∈ fp_tw := ⟨tw_i 77 (by rfl) rfl, tw_i 63 (by rfl) rfl⟩
set_option maxRecDepth 100000 in
theorem cw_X0_25 : Cond.methodLink RX0 25 yJ7_copyOf_59c91 ∈ fp_tw ∧ Cond.static yJ7_copyOf_59c91 ∈ fp_tw := ⟨tw_i 452 (by rfl) rfl, tw_i 453 (by rfl) rfl⟩
set_option maxRecDepth 100000 in
theorem cw_X0_31 : Cond.methodLink RX0 31 yX0_put ∈ fp_tw ∧ Cond.instanceMethod yX0_put ∈ fp_tw ∧ Cond.selects RX0 yX0_put yX0_put ∈ fp_tw := ⟨tw_i 448 (by rfl) rfl, tw_i 449 (by rfl) rfl, tw_i 450 (by rfl) rfl⟩
set_option maxRecDepth 100000 in
theorem cw_X0_35 : Cond.methodLinkNest RX0 35 yX10_lengthOf RX10 ∈ fp_tn ∧ Cond.static yX10_lengthOf ∈ fp_tw := ⟨tn_i 497 (by rfl) rfl, tw_i 308 (by rfl) rfl⟩
set_option maxRecDepth 100000 in
theorem cw_X0_39 : Cond.methodLink RX0 39 yX0_putNumber ∈ fp_tw ∧ Cond.instanceMethod yX0_putNumber ∈ fp_tw ∧ Cond.selects RX0 yX0_putNumber yX0_putNumber ∈ fp_tw := ⟨tw_i 498 (by rfl) rfl, tw_i 445 (by rfl) rfl, tw_i 446 (by rfl) rfl⟩
set_option maxRecDepth 100000 in
theorem cw_X0_45 : Cond.methodLink RX0 45 yX0_at ∈ fp_tw ∧ Cond.instanceMethod yX0_at ∈ fp_tw ∧ Cond.selects RX0 yX0_at yX0_at ∈ fp_tw := ⟨tw_i 564 (by rfl) rfl, tw_i 565 (by rfl) rfl, tw_i 566 (by rfl) rfl⟩
set_option maxRecDepth 100000 in
theorem cw_X1_3 : Cond.methodLink RX1 3 Lib.objectInit ∈ fp_tw ∧ Cond.instanceMethod Lib.objectInit ∈ fp_tw ∧ Cond.code Lib.objectInit ⟨#[0xb1]⟩ 1 none ∈ fp_tw := ⟨tw_i 230 (by rfl) rfl, tw_i 57 (by rfl) rfl, tw_i 58 (by rfl) rfl⟩
set_option maxRecDepth 100000 in
theorem cw_X1_11 : Cond.methodLink RX1 11 yX8_init ∈ fp_tw ∧ Cond.instanceMethod yX8_init ∈ fp_tw := ⟨tw_i 232 (by rfl) rfl, tw_i 133 (by rfl) rfl⟩
set_option maxRecDepth 100000 in
theorem cw_X1_20 : Cond.methodLink RX1 20 yX6_left ∈ fp_tw ∧ Cond.instanceMethod yX6_left ∈ fp_tw ∧ Cond.selects RX6 yX6_left yX6_left ∈ fp_tw := ⟨tw_i 631 (by rfl) rfl, tw_i 587 (by rfl) rfl, tw_i 588 (by rfl) rfl⟩
set_option maxRecDepth 100000 in
theorem cw_X1_26 : Cond.methodLink RX1 26 yX1_obeyOne ∈ fp_tw ∧ Cond.instanceMethod yX1_obeyOne ∈ fp_tw ∧ Cond.selects RX1 yX1_obeyOne yX1_obeyOne ∈ fp_tw := ⟨tw_i 632 (by rfl) rfl, tw_i 633 (by rfl) rfl, tw_i 634 (by rfl) rfl⟩
set_option maxRecDepth 100000 in
theorem cw_X1_34 : Cond.methodLink RX1 34 yX1_takeName ∈ fp_tw ∧ Cond.instanceMethod yX1_takeName ∈ fp_tw ∧ Cond.selects RX1 yX1_takeName yX1_takeName ∈ fp_tw := ⟨tw_i 636 (by rfl) rfl, tw_i 637 (by rfl) rfl, tw_i 638 (by rfl) rfl⟩
set_option maxRecDepth 100000 in
theorem cw_X1_38 : Cond.methodLink RX1 38 yX6_takeText ∈ fp_tw ∧ Cond.instanceMethod yX6_takeText ∈ fp_tw ∧ Cond.selects RX6 yX6_takeText yX6_takeText ∈ fp_tw := ⟨tw_i 643 (by rfl) rfl, tw_i 644 (by rfl) rfl, tw_i 645 (by rfl) rfl⟩
set_option maxRecDepth 100000 in
theorem cw_X1_46 : Cond.methodLink RX1 46 yX6_rewind ∈ fp_tw ∧ Cond.instanceMethod yX6_rewind ∈ fp_tw ∧ Cond.selects RX6 yX6_rewind yX6_rewind ∈ fp_tw := ⟨tw_i 649 (by rfl) rfl, tw_i 607 (by rfl) rfl, tw_i 608 (by rfl) rfl⟩
set_option maxRecDepth 100000 in
theorem cw_X1_49 : Cond.methodLink RX1 49 yX8_insert ∈ fp_tw ∧ Cond.instanceMethod yX8_insert ∈ fp_tw ∧ Cond.selects RX8 yX8_insert yX8_insert ∈ fp_tw := ⟨tw_i 650 (by rfl) rfl, tw_i 528 (by rfl) rfl, tw_i 529 (by rfl) rfl⟩
set_option maxRecDepth 100000 in
theorem cw_X1_53 : Cond.methodLink RX1 53 yX6_front ∈ fp_tw ∧ Cond.instanceMethod yX6_front ∈ fp_tw ∧ Cond.selects RX6 yX6_front yX6_front ∈ fp_tw := ⟨tw_i 640 (by rfl) rfl, tw_i 595 (by rfl) rfl, tw_i 596 (by rfl) rfl⟩
set_option maxRecDepth 100000 in
theorem cw_X1_56 : Cond.methodLink RX1 56 yX6_takeNumber ∈ fp_tw ∧ Cond.instanceMethod yX6_takeNumber ∈ fp_tw ∧ Cond.selects RX6 yX6_takeNumber yX6_takeNumber ∈ fp_tw := ⟨tw_i 641 (by rfl) rfl, tw_i 599 (by rfl) rfl, tw_i 600 (by rfl) rfl⟩
set_option maxRecDepth 100000 in
theorem cw_X1_63 : Cond.methodLink RX1 63 yX8_nameAt ∈ fp_tw ∧ Cond.instanceMethod yX8_nameAt ∈ fp_tw ∧ Cond.selects RX8 yX8_nameAt yX8_nameAt ∈ fp_tw := ⟨tw_i 642 (by rfl) rfl, tw_i 471 (by rfl) rfl, tw_i 472 (by rfl) rfl⟩
set_option maxRecDepth 100000 in
theorem cw_X1_71 : Cond.methodLink RX1 71 yX6_init ∈ fp_tw ∧ Cond.instanceMethod yX6_init ∈ fp_tw := ⟨tw_i 693 (by rfl) rfl, tw_i 94 (by rfl) rfl⟩
set_option maxRecDepth 100000 in
theorem cw_X1_76 : Cond.methodLink RX1 76 yX1_requiredBy ∈ fp_tw ∧ Cond.instanceMethod yX1_requiredBy ∈ fp_tw ∧ Cond.selects RX1 yX1_requiredBy yX1_requiredBy ∈ fp_tw := ⟨tw_i 695 (by rfl) rfl, tw_i 696 (by rfl) rfl, tw_i 697 (by rfl) rfl⟩
set_option maxRecDepth 100000 in
theorem cw_X1_79 : Cond.methodLink RX1 79 yX7_init ∈ fp_tw ∧ Cond.instanceMethod yX7_init ∈ fp_tw := ⟨tw_i 702 (by rfl) rfl, tw_i 703 (by rfl) rfl⟩
set_option maxRecDepth 100000 in
theorem cw_X1_85 : Cond.methodLink RX1 85 yJ9_floorMod_7cf53 ∈ fp_tw ∧ Cond.static yJ9_floorMod_7cf53 ∈ fp_tw := ⟨tw_i 699 (by rfl) rfl, tw_i 700 (by rfl) rfl⟩
set_option maxRecDepth 100000 in
theorem cw_X1_97 : Cond.methodLink RX1 97 yJx4a65c_size_8abf5 ∈ fp_tw ∧ Cond.instanceMethod yJx4a65c_size_8abf5 ∈ fp_tw ∧ Cond.selects RJx4a65c yJx4a65c_size_8abf5 yJx4a65c_size_8abf5 ∈ fp_tw := ⟨tw_i 655 (by rfl) rfl, tw_i 301 (by rfl) rfl, tw_i 302 (by rfl) rfl⟩
set_option maxRecDepth 100000 in
theorem cw_X1_101 : Cond.methodLink RX1 101 yJx4a65c_get_915e3 ∈ fp_tw ∧ Cond.instanceMethod yJx4a65c_get_915e3 ∈ fp_tw ∧ Cond.selects RJx4a65c yJx4a65c_get_915e3 yJx4a65c_get_915e3 ∈ fp_tw := ⟨tw_i 656 (by rfl) rfl, tw_i 412 (by rfl) rfl, tw_i 413 (by rfl) rfl⟩
set_option maxRecDepth 100000 in
theorem cw_X1_108 : Cond.methodLink RX1 108 yJx4a65c_remove_915e3 ∈ fp_tw ∧ Cond.instanceMethod yJx4a65c_remove_915e3 ∈ fp_tw ∧ Cond.selects RJx4a65c yJx4a65c_remove_915e3 yJx4a65c_remove_915e3 ∈ fp_tw := ⟨tw_i 658 (by rfl) rfl, tw_i 615 (by rfl) rfl, tw_i 616 (by rfl) rfl⟩
set_option maxRecDepth 100000 in
theorem cw_X1_111 : Cond.methodLink RX1 111 yX1_readLines ∈ fp_tw ∧ Cond.instanceMethod yX1_readLines ∈ fp_tw ∧ Cond.selects RX1 yX1_readLines yX1_readLines ∈ fp_tw := ⟨tw_i 659 (by rfl) rfl, tw_i 660 (by rfl) rfl, tw_i 661 (by rfl) rfl⟩
set_option maxRecDepth 100000 in
theorem cw_X1_118 : Cond.methodLink RX1 118 yJx4a65c_add_9ea2d ∈ fp_tw ∧ Cond.instanceMethod yJx4a65c_add_9ea2d ∈ fp_tw ∧ Cond.selects RJx4a65c yJx4a65c_add_9ea2d yJx4a65c_add_9ea2d ∈ fp_tw := ⟨tw_i 675 (by rfl) rfl, tw_i 334 (by rfl) rfl, tw_i 335 (by rfl) rfl⟩
set_option maxRecDepth 100000 in
theorem cw_X1_125 : Cond.methodLink RX1 125 yX0_putNumber ∈ fp_tw ∧ Cond.instanceMethod yX0_putNumber ∈ fp_tw ∧ Cond.selects RX0 yX0_putNumber yX0_putNumber ∈ fp_tw := ⟨tw_i 676 (by rfl) rfl, tw_i 445 (by rfl) rfl, tw_i 446 (by rfl) rfl⟩
set_option maxRecDepth 100000 in
theorem cw_X1_132 : Cond.methodLink RX1 132 yJ9_max_7cf53 ∈ fp_tw ∧ Cond.static yJ9_max_7cf53 ∈ fp_tw := ⟨tw_i 677 (by rfl) rfl, tw_i 63 (by rfl) rfl⟩
set_option maxRecDepth 100000 in
theorem cw_X1_142 : Cond.methodLink RX1 142 yX1_readLine ∈ fp_tw ∧ Cond.instanceMethod yX1_readLine ∈ fp_tw ∧ Cond.selects RX1 yX1_readLine yX1_readLine ∈ fp_tw := ⟨tw_i 663 (by rfl) rfl, tw_i 664 (by rfl) rfl, tw_i 665 (by rfl) rfl⟩
set_option maxRecDepth 100000 in
theorem cw_X1_148 : Cond.methodLinkNest RX1 148 yX10_fixedValue RX10 ∈ fp_tn ∧ Cond.static yX10_fixedValue ∈ fp_tw := ⟨tn_i 668 (by rfl) rfl, tw_i 441 (by rfl) rfl⟩
set_option maxRecDepth 100000 in
theorem cw_X1_151 : Cond.methodLink RX1 151 yX3_init ∈ fp_tw ∧ Cond.instanceMethod yX3_init ∈ fp_tw := ⟨tw_i 669 (by rfl) rfl, tw_i 314 (by rfl) rfl⟩
set_option maxRecDepth 100000 in
theorem cw_X1_154 : Cond.methodLink RX1 154 yX1_fieldAt ∈ fp_tw ∧ Cond.instanceMethod yX1_fieldAt ∈ fp_tw ∧ Cond.selects RX1 yX1_fieldAt yX1_fieldAt ∈ fp_tw := ⟨tw_i 670 (by rfl) rfl, tw_i 671 (by rfl) rfl, tw_i 672 (by rfl) rfl⟩
set_option maxRecDepth 100000 in
theorem cw_X1_158 : Cond.methodLink RX1 158 yX8_valueAt ∈ fp_tw ∧ Cond.instanceMethod yX8_valueAt ∈ fp_tw ∧ Cond.selects RX8 yX8_valueAt yX8_valueAt ∈ fp_tw := ⟨tw_i 674 (by rfl) rfl, tw_i 505 (by rfl) rfl, tw_i 506 (by rfl) rfl⟩
set_option maxRecDepth 100000 in
theorem cw_X2_3 : Cond.methodLink RX2 3 Lib.objectInit ∈ fp_tw ∧ Cond.instanceMethod Lib.objectInit ∈ fp_tw ∧ Cond.code Lib.objectInit ⟨#[0xb1]⟩ 1 none ∈ fp_tw := ⟨tw_i 129 (by rfl) rfl, tw_i 57 (by rfl) rfl, tw_i 58 (by rfl) rfl⟩
set_option maxRecDepth 100000 in
theorem cw_X2_11 : Cond.methodLink RX2 11 yX8_init ∈ fp_tw ∧ Cond.instanceMethod yX8_init ∈ fp_tw := ⟨tw_i 132 (by rfl) rfl, tw_i 133 (by rfl) rfl⟩
set_option maxRecDepth 100000 in
theorem cw_X2_26 : Cond.methodLink RX2 26 yJx4a65c_init_da8c8 ∈ fp_tw ∧ Cond.instanceMethod yJx4a65c_init_da8c8 ∈ fp_tw := ⟨tw_i 168 (by rfl) rfl, tw_i 169 (by rfl) rfl⟩
set_option maxRecDepth 100000 in
theorem cw_X2_33 : Cond.methodLink RX2 33 yX0_init ∈ fp_tw ∧ Cond.instanceMethod yX0_init ∈ fp_tw := ⟨tw_i 193 (by rfl) rfl, tw_i 74 (by rfl) rfl⟩
set_option maxRecDepth 100000 in
theorem cw_X2_54 : Cond.methodLink RX2 54 yX2_isAtRisk ∈ fp_tw ∧ Cond.instanceMethod yX2_isAtRisk ∈ fp_tw ∧ Cond.selects RX2 yX2_isAtRisk yX2_isAtRisk ∈ fp_tw := ⟨tw_i 406 (by rfl) rfl, tw_i 407 (by rfl) rfl, tw_i 408 (by rfl) rfl⟩
set_option maxRecDepth 100000 in
theorem cw_X2_58 : Cond.methodLink RX2 58 yX2_streamsAtRisk ∈ fp_tw ∧ Cond.instanceMethod yX2_streamsAtRisk ∈ fp_tw ∧ Cond.selects RX2 yX2_streamsAtRisk yX2_streamsAtRisk ∈ fp_tw := ⟨tw_i 426 (by rfl) rfl, tw_i 427 (by rfl) rfl, tw_i 428 (by rfl) rfl⟩
set_option maxRecDepth 100000 in
theorem cw_X2_66 : Cond.methodLink RX2 66 yJx4a65c_size_8abf5 ∈ fp_tw ∧ Cond.instanceMethod yJx4a65c_size_8abf5 ∈ fp_tw ∧ Cond.selects RJx4a65c yJx4a65c_size_8abf5 yJx4a65c_size_8abf5 ∈ fp_tw := ⟨tw_i 410 (by rfl) rfl, tw_i 301 (by rfl) rfl, tw_i 302 (by rfl) rfl⟩
set_option maxRecDepth 100000 in
theorem cw_X2_68 : Cond.methodLink RX2 68 yJx4a65c_get_915e3 ∈ fp_tw ∧ Cond.instanceMethod yJx4a65c_get_915e3 ∈ fp_tw ∧ Cond.selects RJx4a65c yJx4a65c_get_915e3 yJx4a65c_get_915e3 ∈ fp_tw := ⟨tw_i 411 (by rfl) rfl, tw_i 412 (by rfl) rfl, tw_i 413 (by rfl) rfl⟩
set_option maxRecDepth 100000 in
theorem cw_X2_74 : Cond.methodLink RX2 74 yX2_putField ∈ fp_tw ∧ Cond.instanceMethod yX2_putField ∈ fp_tw ∧ Cond.selects RX2 yX2_putField yX2_putField ∈ fp_tw := ⟨tw_i 431 (by rfl) rfl, tw_i 432 (by rfl) rfl, tw_i 433 (by rfl) rfl⟩
set_option maxRecDepth 100000 in
theorem cw_X2_80 : Cond.methodLink RX2 80 yX5_init ∈ fp_tw ∧ Cond.instanceMethod yX5_init ∈ fp_tw := ⟨tw_i 538 (by rfl) rfl, tw_i 539 (by rfl) rfl⟩
set_option maxRecDepth 100000 in
theorem cw_X2_83 : Cond.methodLink RX2 83 yJx4a65c_add_9ea2d ∈ fp_tw ∧ Cond.instanceMethod yJx4a65c_add_9ea2d ∈ fp_tw ∧ Cond.selects RJx4a65c yJx4a65c_add_9ea2d yJx4a65c_add_9ea2d ∈ fp_tw := ⟨tw_i 555 (by rfl) rfl, tw_i 334 (by rfl) rfl, tw_i 335 (by rfl) rfl⟩
set_option maxRecDepth 100000 in
theorem cw_X2_87 : Cond.methodLink RX2 87 yX2_putFront ∈ fp_tw ∧ Cond.instanceMethod yX2_putFront ∈ fp_tw ∧ Cond.selects RX2 yX2_putFront yX2_putFront ∈ fp_tw := ⟨tw_i 556 (by rfl) rfl, tw_i 557 (by rfl) rfl, tw_i 558 (by rfl) rfl⟩
set_option maxRecDepth 100000 in
theorem cw_X2_91 : Cond.methodLink RX2 91 yX0_putAll ∈ fp_tw ∧ Cond.instanceMethod yX0_putAll ∈ fp_tw ∧ Cond.selects RX0 yX0_putAll yX0_putAll ∈ fp_tw := ⟨tw_i 560 (by rfl) rfl, tw_i 561 (by rfl) rfl, tw_i 562 (by rfl) rfl⟩
set_option maxRecDepth 100000 in
theorem cw_X2_97 : Cond.methodLink RX2 97 yX0_putNumber ∈ fp_tw ∧ Cond.instanceMethod yX0_putNumber ∈ fp_tw ∧ Cond.selects RX0 yX0_putNumber yX0_putNumber ∈ fp_tw := ⟨tw_i 444 (by rfl) rfl, tw_i 445 (by rfl) rfl, tw_i 446 (by rfl) rfl⟩
set_option maxRecDepth 100000 in
theorem cw_X2_104 : Cond.methodLinkNest RX2 104 yX10_fixedNamed RX10 ∈ fp_tn ∧ Cond.static yX10_fixedNamed ∈ fp_tw := ⟨tn_i 435 (by rfl) rfl, tw_i 436 (by rfl) rfl⟩
set_option maxRecDepth 100000 in
theorem cw_X2_108 : Cond.methodLinkNest RX2 108 yX10_fixedValue RX10 ∈ fp_tn ∧ Cond.static yX10_fixedValue ∈ fp_tw := ⟨tn_i 440 (by rfl) rfl, tw_i 441 (by rfl) rfl⟩
set_option maxRecDepth 100000 in
theorem cw_X2_118 : Cond.methodLink RX2 118 yX2_putLiteral ∈ fp_tw ∧ Cond.instanceMethod yX2_putLiteral ∈ fp_tw ∧ Cond.selects RX2 yX2_putLiteral yX2_putLiteral ∈ fp_tw := ⟨tw_i 462 (by rfl) rfl, tw_i 463 (by rfl) rfl, tw_i 464 (by rfl) rfl⟩
set_option maxRecDepth 100000 in
theorem cw_X2_122 : Cond.methodLink RX2 122 yX8_lastOf ∈ fp_tw ∧ Cond.instanceMethod yX8_lastOf ∈ fp_tw ∧ Cond.selects RX8 yX8_lastOf yX8_lastOf ∈ fp_tw := ⟨tw_i 500 (by rfl) rfl, tw_i 501 (by rfl) rfl, tw_i 502 (by rfl) rfl⟩
set_option maxRecDepth 100000 in
theorem cw_X2_126 : Cond.methodLink RX2 126 yX2_canInsert ∈ fp_tw ∧ Cond.instanceMethod yX2_canInsert ∈ fp_tw ∧ Cond.selects RX2 yX2_canInsert yX2_canInsert ∈ fp_tw := ⟨tw_i 508 (by rfl) rfl, tw_i 509 (by rfl) rfl, tw_i 510 (by rfl) rfl⟩
set_option maxRecDepth 100000 in
theorem cw_X2_130 : Cond.methodLink RX2 130 yX2_insert ∈ fp_tw ∧ Cond.instanceMethod yX2_insert ∈ fp_tw ∧ Cond.selects RX2 yX2_insert yX2_insert ∈ fp_tw := ⟨tw_i 523 (by rfl) rfl, tw_i 524 (by rfl) rfl, tw_i 525 (by rfl) rfl⟩
set_option maxRecDepth 100000 in
theorem cw_X2_134 : Cond.methodLink RX2 134 yX2_mayReferTo ∈ fp_tw ∧ Cond.instanceMethod yX2_mayReferTo ∈ fp_tw ∧ Cond.selects RX2 yX2_mayReferTo yX2_mayReferTo ∈ fp_tw := ⟨tw_i 479 (by rfl) rfl, tw_i 480 (by rfl) rfl, tw_i 481 (by rfl) rfl⟩
set_option maxRecDepth 100000 in
theorem cw_X2_137 : Cond.methodLink RX2 137 yX2_putEntry ∈ fp_tw ∧ Cond.instanceMethod yX2_putEntry ∈ fp_tw ∧ Cond.selects RX2 yX2_putEntry yX2_putEntry ∈ fp_tw := ⟨tw_i 533 (by rfl) rfl, tw_i 534 (by rfl) rfl, tw_i 535 (by rfl) rfl⟩
set_option maxRecDepth 100000 in
theorem cw_X2_140 : Cond.methodLink RX2 140 yX2_noteReference ∈ fp_tw ∧ Cond.instanceMethod yX2_noteReference ∈ fp_tw ∧ Cond.selects RX2 yX2_noteReference yX2_noteReference ∈ fp_tw := ⟨tw_i 487 (by rfl) rfl, tw_i 488 (by rfl) rfl, tw_i 489 (by rfl) rfl⟩
set_option maxRecDepth 100000 in
theorem cw_X2_143 : Cond.methodLink RX2 143 yX8_lastNamed ∈ fp_tw ∧ Cond.instanceMethod yX8_lastNamed ∈ fp_tw ∧ Cond.selects RX8 yX8_lastNamed yX8_lastNamed ∈ fp_tw := ⟨tw_i 466 (by rfl) rfl, tw_i 467 (by rfl) rfl, tw_i 468 (by rfl) rfl⟩
set_option maxRecDepth 100000 in
theorem cw_X2_146 : Cond.methodLink RX2 146 yX2_putNameOf ∈ fp_tw ∧ Cond.instanceMethod yX2_putNameOf ∈ fp_tw ∧ Cond.selects RX2 yX2_putNameOf yX2_putNameOf ∈ fp_tw := ⟨tw_i 483 (by rfl) rfl, tw_i 484 (by rfl) rfl, tw_i 485 (by rfl) rfl⟩
set_option maxRecDepth 100000 in
theorem cw_X2_150 : Cond.methodLink RX2 150 yX0_putText ∈ fp_tw ∧ Cond.instanceMethod yX0_putText ∈ fp_tw ∧ Cond.selects RX0 yX0_putText yX0_putText ∈ fp_tw := ⟨tw_i 493 (by rfl) rfl, tw_i 494 (by rfl) rfl, tw_i 495 (by rfl) rfl⟩
set_option maxRecDepth 100000 in
theorem cw_X2_154 : Cond.methodLink RX2 154 yJ9_max_7cf53 ∈ fp_tw ∧ Cond.static yJ9_max_7cf53 ∈ fp_tw := ⟨tw_i 491 (by rfl) rfl, tw_i 63 (by rfl) rfl⟩
set_option maxRecDepth 100000 in
theorem cw_X2_160 : Cond.methodLink RX2 160 yJ9_min_7cf53 ∈ fp_tw ∧ Cond.static yJ9_min_7cf53 ∈ fp_tw := ⟨tw_i 492 (by rfl) rfl, tw_i 60 (by rfl) rfl⟩
set_option maxRecDepth 100000 in
theorem cw_X2_166 : Cond.methodLinkNest RX2 166 yX10_sizeOf RX10 ∈ fp_tn ∧ Cond.static yX10_sizeOf ∈ fp_tw := ⟨tn_i 512 (by rfl) rfl, tw_i 513 (by rfl) rfl⟩
set_option maxRecDepth 100000 in
theorem cw_X2_169 : Cond.methodLink RX2 169 yX8_firstBeside ∈ fp_tw ∧ Cond.instanceMethod yX8_firstBeside ∈ fp_tw ∧ Cond.selects RX8 yX8_firstBeside yX8_firstBeside ∈ fp_tw := ⟨tw_i 515 (by rfl) rfl, tw_i 516 (by rfl) rfl, tw_i 517 (by rfl) rfl⟩
set_option maxRecDepth 100000 in
theorem cw_X2_173 : Cond.methodLink RX2 173 yX2_firstBusy ∈ fp_tw ∧ Cond.instanceMethod yX2_firstBusy ∈ fp_tw ∧ Cond.selects RX2 yX2_firstBusy yX2_firstBusy ∈ fp_tw := ⟨tw_i 519 (by rfl) rfl, tw_i 520 (by rfl) rfl, tw_i 521 (by rfl) rfl⟩
set_option maxRecDepth 100000 in
theorem cw_X2_177 : Cond.methodLink RX2 177 yX8_insert ∈ fp_tw ∧ Cond.instanceMethod yX8_insert ∈ fp_tw ∧ Cond.selects RX8 yX8_insert yX8_insert ∈ fp_tw := ⟨tw_i 527 (by rfl) rfl, tw_i 528 (by rfl) rfl, tw_i 529 (by rfl) rfl⟩
set_option maxRecDepth 100000 in
theorem cw_X2_184 : Cond.methodLink RX2 184 yX6_left ∈ fp_tw ∧ Cond.instanceMethod yX6_left ∈ fp_tw ∧ Cond.selects RX6 yX6_left yX6_left ∈ fp_tw := ⟨tw_i 586 (by rfl) rfl, tw_i 587 (by rfl) rfl, tw_i 588 (by rfl) rfl⟩
set_option maxRecDepth 100000 in
theorem cw_X2_189 : Cond.methodLink RX2 189 yX2_hearOne ∈ fp_tw ∧ Cond.instanceMethod yX2_hearOne ∈ fp_tw ∧ Cond.selects RX2 yX2_hearOne yX2_hearOne ∈ fp_tw := ⟨tw_i 590 (by rfl) rfl, tw_i 591 (by rfl) rfl, tw_i 592 (by rfl) rfl⟩
set_option maxRecDepth 100000 in
theorem cw_X2_196 : Cond.methodLink RX2 196 yX6_front ∈ fp_tw ∧ Cond.instanceMethod yX6_front ∈ fp_tw ∧ Cond.selects RX6 yX6_front yX6_front ∈ fp_tw := ⟨tw_i 594 (by rfl) rfl, tw_i 595 (by rfl) rfl, tw_i 596 (by rfl) rfl⟩
set_option maxRecDepth 100000 in
theorem cw_X2_199 : Cond.methodLink RX2 199 yX6_takeNumber ∈ fp_tw ∧ Cond.instanceMethod yX6_takeNumber ∈ fp_tw ∧ Cond.selects RX6 yX6_takeNumber yX6_takeNumber ∈ fp_tw := ⟨tw_i 598 (by rfl) rfl, tw_i 599 (by rfl) rfl, tw_i 600 (by rfl) rfl⟩
set_option maxRecDepth 100000 in
theorem cw_X2_205 : Cond.methodLink RX2 205 yX6_rewind ∈ fp_tw ∧ Cond.instanceMethod yX6_rewind ∈ fp_tw ∧ Cond.selects RX6 yX6_rewind yX6_rewind ∈ fp_tw := ⟨tw_i 606 (by rfl) rfl, tw_i 607 (by rfl) rfl, tw_i 608 (by rfl) rfl⟩
set_option maxRecDepth 100000 in
theorem cw_X2_208 : Cond.methodLink RX2 208 yX2_closeOldest ∈ fp_tw ∧ Cond.instanceMethod yX2_closeOldest ∈ fp_tw ∧ Cond.selects RX2 yX2_closeOldest yX2_closeOldest ∈ fp_tw := ⟨tw_i 610 (by rfl) rfl, tw_i 611 (by rfl) rfl, tw_i 612 (by rfl) rfl⟩
set_option maxRecDepth 100000 in
theorem cw_X2_211 : Cond.methodLink RX2 211 yX2_closeAll ∈ fp_tw ∧ Cond.instanceMethod yX2_closeAll ∈ fp_tw ∧ Cond.selects RX2 yX2_closeAll yX2_closeAll ∈ fp_tw := ⟨tw_i 623 (by rfl) rfl, tw_i 624 (by rfl) rfl, tw_i 625 (by rfl) rfl⟩
set_option maxRecDepth 100000 in
theorem cw_X2_214 : Cond.methodLink RX2 214 yJx4a65c_remove_915e3 ∈ fp_tw ∧ Cond.instanceMethod yJx4a65c_remove_915e3 ∈ fp_tw ∧ Cond.selects RJx4a65c yJx4a65c_remove_915e3 yJx4a65c_remove_915e3 ∈ fp_tw := ⟨tw_i 614 (by rfl) rfl, tw_i 615 (by rfl) rfl, tw_i 616 (by rfl) rfl⟩
set_option maxRecDepth 100000 in
theorem cw_X3_1 : Cond.methodLink RX3 1 Lib.objectInit ∈ fp_tw ∧ Cond.instanceMethod Lib.objectInit ∈ fp_tw ∧ Cond.code Lib.objectInit ⟨#[0xb1]⟩ 1 none ∈ fp_tw := ⟨tw_i 316 (by rfl) rfl, tw_i 57 (by rfl) rfl, tw_i 58 (by rfl) rfl⟩
set_option maxRecDepth 100000 in
theorem cw_X4_1 : Cond.methodLink RX4 1 Lib.objectInit ∈ fp_tw ∧ Cond.instanceMethod Lib.objectInit ∈ fp_tw ∧ Cond.code Lib.objectInit ⟨#[0xb1]⟩ 1 none ∈ fp_tw := ⟨tw_i 247 (by rfl) rfl, tw_i 57 (by rfl) rfl, tw_i 58 (by rfl) rfl⟩
set_option maxRecDepth 100000 in
theorem cw_X4_15 : Cond.methodLink RX4 15 yJx4a65c_init_da8c8 ∈ fp_tw ∧ Cond.instanceMethod yJx4a65c_init_da8c8 ∈ fp_tw := ⟨tw_i 249 (by rfl) rfl, tw_i 169 (by rfl) rfl⟩
set_option maxRecDepth 100000 in
theorem cw_X5_1 : Cond.methodLink RX5 1 Lib.objectInit ∈ fp_tw ∧ Cond.instanceMethod Lib.objectInit ∈ fp_tw ∧ Cond.code Lib.objectInit ⟨#[0xb1]⟩ 1 none ∈ fp_tw := ⟨tw_i 541 (by rfl) rfl, tw_i 57 (by rfl) rfl, tw_i 58 (by rfl) rfl⟩
set_option maxRecDepth 100000 in
theorem cw_X6_3 : Cond.methodLink RX6 3 Lib.objectInit ∈ fp_tw ∧ Cond.instanceMethod Lib.objectInit ∈ fp_tw ∧ Cond.code Lib.objectInit ⟨#[0xb1]⟩ 1 none ∈ fp_tw := ⟨tw_i 96 (by rfl) rfl, tw_i 57 (by rfl) rfl, tw_i 58 (by rfl) rfl⟩
set_option maxRecDepth 100000 in
theorem cw_X6_32 : Cond.methodLink RX6 32 yX6_take ∈ fp_tw ∧ Cond.instanceMethod yX6_take ∈ fp_tw ∧ Cond.selects RX6 yX6_take yX6_take ∈ fp_tw := ⟨tw_i 602 (by rfl) rfl, tw_i 603 (by rfl) rfl, tw_i 604 (by rfl) rfl⟩
set_option maxRecDepth 100000 in
theorem cw_X6_36 : Cond.methodLink RX6 36 yX6_takeNumber ∈ fp_tw ∧ Cond.instanceMethod yX6_takeNumber ∈ fp_tw ∧ Cond.selects RX6 yX6_takeNumber yX6_takeNumber ∈ fp_tw := ⟨tw_i 647 (by rfl) rfl, tw_i 599 (by rfl) rfl, tw_i 600 (by rfl) rfl⟩
set_option maxRecDepth 100000 in
theorem cw_X6_40 : Cond.methodLink RX6 40 yJ9_min_7cf53 ∈ fp_tw ∧ Cond.static yJ9_min_7cf53 ∈ fp_tw := ⟨tw_i 648 (by rfl) rfl, tw_i 60 (by rfl) rfl⟩
set_option maxRecDepth 100000 in
theorem cw_X7_1 : Cond.methodLink RX7 1 Lib.objectInit ∈ fp_tw ∧ Cond.instanceMethod Lib.objectInit ∈ fp_tw ∧ Cond.code Lib.objectInit ⟨#[0xb1]⟩ 1 none ∈ fp_tw := ⟨tw_i 705 (by rfl) rfl, tw_i 57 (by rfl) rfl, tw_i 58 (by rfl) rfl⟩
set_option maxRecDepth 100000 in
theorem cw_X7_19 : Cond.methodLink RX7 19 yJx4a65c_init_da8c8 ∈ fp_tw ∧ Cond.instanceMethod yJx4a65c_init_da8c8 ∈ fp_tw := ⟨tw_i 707 (by rfl) rfl, tw_i 169 (by rfl) rfl⟩
set_option maxRecDepth 100000 in
theorem cw_X8_3 : Cond.methodLink RX8 3 Lib.objectInit ∈ fp_tw ∧ Cond.instanceMethod Lib.objectInit ∈ fp_tw ∧ Cond.code Lib.objectInit ⟨#[0xb1]⟩ 1 none ∈ fp_tw := ⟨tw_i 135 (by rfl) rfl, tw_i 57 (by rfl) rfl, tw_i 58 (by rfl) rfl⟩
set_option maxRecDepth 100000 in
theorem cw_X8_32 : Cond.methodLink RX8 32 yX8_has ∈ fp_tw ∧ Cond.instanceMethod yX8_has ∈ fp_tw ∧ Cond.selects RX8 yX8_has yX8_has ∈ fp_tw := ⟨tw_i 474 (by rfl) rfl, tw_i 475 (by rfl) rfl, tw_i 476 (by rfl) rfl⟩
set_option maxRecDepth 100000 in
theorem cw_X8_38 : Cond.methodLink RX8 38 yX8_nameAt ∈ fp_tw ∧ Cond.instanceMethod yX8_nameAt ∈ fp_tw ∧ Cond.selects RX8 yX8_nameAt yX8_nameAt ∈ fp_tw := ⟨tw_i 470 (by rfl) rfl, tw_i 471 (by rfl) rfl, tw_i 472 (by rfl) rfl⟩
set_option maxRecDepth 100000 in
theorem cw_X8_42 : Cond.methodLink RX8 42 yX8_valueAt ∈ fp_tw ∧ Cond.instanceMethod yX8_valueAt ∈ fp_tw ∧ Cond.selects RX8 yX8_valueAt yX8_valueAt ∈ fp_tw := ⟨tw_i 504 (by rfl) rfl, tw_i 505 (by rfl) rfl, tw_i 506 (by rfl) rfl⟩
set_option maxRecDepth 100000 in
theorem cw_X8_48 : Cond.methodLinkNest RX8 48 yX10_sizeOf RX10 ∈ fp_tn ∧ Cond.static yX10_sizeOf ∈ fp_tw := ⟨tn_i 531 (by rfl) rfl, tw_i 513 (by rfl) rfl⟩
set_option maxRecDepth 100000 in
theorem cw_X8_52 : Cond.methodLink RX8 52 yX8_firstBeside ∈ fp_tw ∧ Cond.instanceMethod yX8_firstBeside ∈ fp_tw ∧ Cond.selects RX8 yX8_firstBeside yX8_firstBeside ∈ fp_tw := ⟨tw_i 532 (by rfl) rfl, tw_i 516 (by rfl) rfl, tw_i 517 (by rfl) rfl⟩
set_option maxRecDepth 100000 in
theorem cw_X9_3 : Cond.methodLink RX9 3 Lib.objectInit ∈ fp_tw ∧ Cond.instanceMethod Lib.objectInit ∈ fp_tw ∧ Cond.code Lib.objectInit ⟨#[0xb1]⟩ 1 none ∈ fp_tw := ⟨tw_i 70 (by rfl) rfl, tw_i 57 (by rfl) rfl, tw_i 58 (by rfl) rfl⟩
set_option maxRecDepth 100000 in
theorem cw_X9_11 : Cond.methodLink RX9 11 yX0_init ∈ fp_tw ∧ Cond.instanceMethod yX0_init ∈ fp_tw := ⟨tw_i 73 (by rfl) rfl, tw_i 74 (by rfl) rfl⟩
set_option maxRecDepth 100000 in
theorem cw_X9_22 : Cond.methodLink RX9 22 yX6_init ∈ fp_tw ∧ Cond.instanceMethod yX6_init ∈ fp_tw := ⟨tw_i 93 (by rfl) rfl, tw_i 94 (by rfl) rfl⟩
set_option maxRecDepth 100000 in
theorem cw_X9_36 : Cond.methodLink RX9 36 yX9_left ∈ fp_tw ∧ Cond.instanceMethod yX9_left ∈ fp_tw ∧ Cond.selects RX9 yX9_left yX9_left ∈ fp_tw := ⟨tw_i 580 (by rfl) rfl, tw_i 398 (by rfl) rfl, tw_i 399 (by rfl) rfl⟩
set_option maxRecDepth 100000 in
theorem cw_X9_40 : Cond.methodLink RX9 40 yX0_at ∈ fp_tw ∧ Cond.instanceMethod yX0_at ∈ fp_tw ∧ Cond.selects RX0 yX0_at yX0_at ∈ fp_tw := ⟨tw_i 752 (by rfl) rfl, tw_i 565 (by rfl) rfl, tw_i 566 (by rfl) rfl⟩
set_option maxRecDepth 100000 in
theorem cw_X9_44 : Cond.methodLink RX9 44 yJ9_min_7cf53 ∈ fp_tw ∧ Cond.static yJ9_min_7cf53 ∈ fp_tw := ⟨tw_i 581 (by rfl) rfl, tw_i 60 (by rfl) rfl⟩
set_option maxRecDepth 100000 in
theorem cw_L_9 : Cond.methodLink RL 9 yL_cell ∈ fp_tw ∧ Cond.static yL_cell ∈ fp_tw := ⟨tw_i 787 (by rfl) rfl, tw_i 788 (by rfl) rfl⟩
set_option maxRecDepth 100000 in
theorem cw_L_15 : Cond.methodLink RL 15 yX10_init ∈ fp_tw ∧ Cond.instanceMethod yX10_init ∈ fp_tw := ⟨tw_i 53 (by rfl) rfl, tw_i 54 (by rfl) rfl⟩
set_option maxRecDepth 100000 in
theorem cw_L_20 : Cond.methodLink RL 20 yX11_init ∈ fp_tw ∧ Cond.instanceMethod yX11_init ∈ fp_tw := ⟨tw_i 792 (by rfl) rfl, tw_i 793 (by rfl) rfl⟩
set_option maxRecDepth 100000 in
theorem cw_L_23 : Cond.methodLink RL 23 yX10_field ∈ fp_tw ∧ Cond.instanceMethod yX10_field ∈ fp_tw ∧ Cond.selects RX10 yX10_field yX10_field ∈ fp_tw := ⟨tw_i 296 (by rfl) rfl, tw_i 297 (by rfl) rfl, tw_i 298 (by rfl) rfl⟩
set_option maxRecDepth 100000 in
theorem cw_L_27 : Cond.methodLink RL 27 yX11_field ∈ fp_tw ∧ Cond.instanceMethod yX11_field ∈ fp_tw ∧ Cond.selects RX11 yX11_field yX11_field ∈ fp_tw := ⟨tw_i 937 (by rfl) rfl, tw_i 938 (by rfl) rfl, tw_i 939 (by rfl) rfl⟩
set_option maxRecDepth 100000 in
theorem cw_L_28 : Cond.methodLink RL 28 yX10_encode ∈ fp_tw ∧ Cond.instanceMethod yX10_encode ∈ fp_tw ∧ Cond.selects RX10 yX10_encode yX10_encode ∈ fp_tw := ⟨tw_i 389 (by rfl) rfl, tw_i 390 (by rfl) rfl, tw_i 391 (by rfl) rfl⟩
set_option maxRecDepth 100000 in
theorem cw_L_32 : Cond.methodLink RL 32 yX11_encode ∈ fp_tw ∧ Cond.instanceMethod yX11_encode ∈ fp_tw ∧ Cond.selects RX11 yX11_encode yX11_encode ∈ fp_tw := ⟨tw_i 948 (by rfl) rfl, tw_i 949 (by rfl) rfl, tw_i 950 (by rfl) rfl⟩
set_option maxRecDepth 100000 in
theorem cw_L_33 : Cond.methodLink RL 33 yX10_move ∈ fp_tw ∧ Cond.instanceMethod yX10_move ∈ fp_tw ∧ Cond.selects RX10 yX10_move yX10_move ∈ fp_tw := ⟨tw_i 572 (by rfl) rfl, tw_i 573 (by rfl) rfl, tw_i 574 (by rfl) rfl⟩
set_option maxRecDepth 100000 in
theorem cw_L_37 : Cond.methodLink RL 37 yX11_move ∈ fp_tw ∧ Cond.instanceMethod yX11_move ∈ fp_tw ∧ Cond.selects RX11 yX11_move yX11_move ∈ fp_tw := ⟨tw_i 1016 (by rfl) rfl, tw_i 1017 (by rfl) rfl, tw_i 1018 (by rfl) rfl⟩
set_option maxRecDepth 100000 in
theorem cw_L_38 : Cond.methodLink RL 38 yX10_deliver ∈ fp_tw ∧ Cond.instanceMethod yX10_deliver ∈ fp_tw ∧ Cond.selects RX10 yX10_deliver yX10_deliver ∈ fp_tw := ⟨tw_i 678 (by rfl) rfl, tw_i 679 (by rfl) rfl, tw_i 680 (by rfl) rfl⟩
set_option maxRecDepth 100000 in
theorem cw_L_41 : Cond.methodLink RL 41 yX11_deliver ∈ fp_tw ∧ Cond.instanceMethod yX11_deliver ∈ fp_tw ∧ Cond.selects RX11 yX11_deliver yX11_deliver ∈ fp_tw := ⟨tw_i 1036 (by rfl) rfl, tw_i 1037 (by rfl) rfl, tw_i 1038 (by rfl) rfl⟩
set_option maxRecDepth 100000 in
theorem cw_L_42 : Cond.methodLink RL 42 yX10_increment ∈ fp_tw ∧ Cond.instanceMethod yX10_increment ∈ fp_tw ∧ Cond.selects RX10 yX10_increment yX10_increment ∈ fp_tw := ⟨tw_i 722 (by rfl) rfl, tw_i 723 (by rfl) rfl, tw_i 724 (by rfl) rfl⟩
set_option maxRecDepth 100000 in
theorem cw_L_46 : Cond.methodLink RL 46 yX11_increment ∈ fp_tw ∧ Cond.instanceMethod yX11_increment ∈ fp_tw ∧ Cond.selects RX11 yX11_increment yX11_increment ∈ fp_tw := ⟨tw_i 1044 (by rfl) rfl, tw_i 1045 (by rfl) rfl, tw_i 1046 (by rfl) rfl⟩
set_option maxRecDepth 100000 in
theorem cw_L_47 : Cond.methodLink RL 47 yX10_cancel ∈ fp_tw ∧ Cond.instanceMethod yX10_cancel ∈ fp_tw ∧ Cond.selects RX10 yX10_cancel yX10_cancel ∈ fp_tw := ⟨tw_i 730 (by rfl) rfl, tw_i 731 (by rfl) rfl, tw_i 732 (by rfl) rfl⟩
set_option maxRecDepth 100000 in
theorem cw_L_50 : Cond.methodLink RL 50 yX11_cancel ∈ fp_tw ∧ Cond.instanceMethod yX11_cancel ∈ fp_tw ∧ Cond.selects RX11 yX11_cancel yX11_cancel ∈ fp_tw := ⟨tw_i 1048 (by rfl) rfl, tw_i 1049 (by rfl) rfl, tw_i 1050 (by rfl) rfl⟩
set_option maxRecDepth 100000 in
theorem cw_L_51 : Cond.methodLink RL 51 yX10_waiting ∈ fp_tw ∧ Cond.instanceMethod yX10_waiting ∈ fp_tw ∧ Cond.selects RX10 yX10_waiting yX10_waiting ∈ fp_tw := ⟨tw_i 735 (by rfl) rfl, tw_i 736 (by rfl) rfl, tw_i 737 (by rfl) rfl⟩
set_option maxRecDepth 100000 in
theorem cw_L_54 : Cond.methodLink RL 54 yX11_waiting ∈ fp_tw ∧ Cond.instanceMethod yX11_waiting ∈ fp_tw ∧ Cond.selects RX11 yX11_waiting yX11_waiting ∈ fp_tw := ⟨tw_i 1052 (by rfl) rfl, tw_i 1053 (by rfl) rfl, tw_i 1054 (by rfl) rfl⟩
set_option maxRecDepth 100000 in
theorem cw_L_55 : Cond.methodLink RL 55 yX10_look ∈ fp_tw ∧ Cond.instanceMethod yX10_look ∈ fp_tw ∧ Cond.selects RX10 yX10_look yX10_look ∈ fp_tw := ⟨tw_i 744 (by rfl) rfl, tw_i 745 (by rfl) rfl, tw_i 746 (by rfl) rfl⟩
set_option maxRecDepth 100000 in
theorem cw_L_58 : Cond.methodLink RL 58 yX11_look ∈ fp_tw ∧ Cond.instanceMethod yX11_look ∈ fp_tw ∧ Cond.selects RX11 yX11_look yX11_look ∈ fp_tw := ⟨tw_i 1056 (by rfl) rfl, tw_i 1057 (by rfl) rfl, tw_i 1058 (by rfl) rfl⟩
set_option maxRecDepth 100000 in
theorem cw_L_59 : Cond.methodLink RL 59 yX10_told ∈ fp_tw ∧ Cond.instanceMethod yX10_told ∈ fp_tw ∧ Cond.selects RX10 yX10_told yX10_told ∈ fp_tw := ⟨tw_i 754 (by rfl) rfl, tw_i 755 (by rfl) rfl, tw_i 756 (by rfl) rfl⟩
set_option maxRecDepth 100000 in
theorem cw_L_62 : Cond.methodLink RL 62 yX11_told ∈ fp_tw ∧ Cond.instanceMethod yX11_told ∈ fp_tw ∧ Cond.selects RX11 yX11_told yX11_told ∈ fp_tw := ⟨tw_i 1061 (by rfl) rfl, tw_i 1062 (by rfl) rfl, tw_i 1063 (by rfl) rfl⟩
set_option maxRecDepth 100000 in
theorem cw_L_63 : Cond.methodLink RL 63 yX10_entry ∈ fp_tw ∧ Cond.instanceMethod yX10_entry ∈ fp_tw ∧ Cond.selects RX10 yX10_entry yX10_entry ∈ fp_tw := ⟨tw_i 771 (by rfl) rfl, tw_i 772 (by rfl) rfl, tw_i 773 (by rfl) rfl⟩
set_option maxRecDepth 100000 in
theorem cw_L_67 : Cond.methodLink RL 67 yX11_entry ∈ fp_tw ∧ Cond.instanceMethod yX11_entry ∈ fp_tw ∧ Cond.selects RX11 yX11_entry yX11_entry ∈ fp_tw := ⟨tw_i 1073 (by rfl) rfl, tw_i 1074 (by rfl) rfl, tw_i 1075 (by rfl) rfl⟩
set_option maxRecDepth 100000 in
theorem cw_L_68 : Cond.methodLink RL 68 yX10_sections ∈ fp_tw ∧ Cond.instanceMethod yX10_sections ∈ fp_tw ∧ Cond.selects RX10 yX10_sections yX10_sections ∈ fp_tw := ⟨tw_i 778 (by rfl) rfl, tw_i 779 (by rfl) rfl, tw_i 780 (by rfl) rfl⟩
set_option maxRecDepth 100000 in
theorem cw_L_71 : Cond.methodLink RL 71 yX11_sections ∈ fp_tw ∧ Cond.instanceMethod yX11_sections ∈ fp_tw ∧ Cond.selects RX11 yX11_sections yX11_sections ∈ fp_tw := ⟨tw_i 1078 (by rfl) rfl, tw_i 1079 (by rfl) rfl, tw_i 1080 (by rfl) rfl⟩
set_option maxRecDepth 100000 in
theorem cw_L_72 : Cond.methodLink RL 72 yX10_decoded ∈ fp_tw ∧ Cond.instanceMethod yX10_decoded ∈ fp_tw ∧ Cond.selects RX10 yX10_decoded yX10_decoded ∈ fp_tw := ⟨tw_i 782 (by rfl) rfl, tw_i 783 (by rfl) rfl, tw_i 784 (by rfl) rfl⟩
set_option maxRecDepth 100000 in
theorem cw_L_76 : Cond.methodLink RL 76 yX11_decoded ∈ fp_tw ∧ Cond.instanceMethod yX11_decoded ∈ fp_tw ∧ Cond.selects RX11 yX11_decoded yX11_decoded ∈ fp_tw := ⟨tw_i 1082 (by rfl) rfl, tw_i 1083 (by rfl) rfl, tw_i 1084 (by rfl) rfl⟩
set_option maxRecDepth 100000 in
theorem cw_X11_1 : Cond.methodLink RX11 1 Lib.objectInit ∈ fp_tw ∧ Cond.instanceMethod Lib.objectInit ∈ fp_tw ∧ Cond.code Lib.objectInit ⟨#[0xb1]⟩ 1 none ∈ fp_tw := ⟨tw_i 795 (by rfl) rfl, tw_i 57 (by rfl) rfl, tw_i 58 (by rfl) rfl⟩
set_option maxRecDepth 100000 in
theorem cw_X11_100 : Cond.methodLink RX11 100 yX11_length ∈ fp_tw ∧ Cond.static yX11_length ∈ fp_tw := ⟨tw_i 944 (by rfl) rfl, tw_i 945 (by rfl) rfl⟩
set_option maxRecDepth 100000 in
theorem cw_X11_116 : Cond.methodLink RX11 116 yX11_lay ∈ fp_tw ∧ Cond.instanceMethod yX11_lay ∈ fp_tw ∧ Cond.selects RX11 yX11_lay yX11_lay ∈ fp_tw := ⟨tw_i 981 (by rfl) rfl, tw_i 983 (by rfl) rfl, tw_i 14 (by rfl) rfl⟩
set_option maxRecDepth 100000 in
theorem cw_X11_120 : Cond.methodLink RX11 120 yX11_number ∈ fp_tw ∧ Cond.instanceMethod yX11_number ∈ fp_tw ∧ Cond.selects RX11 yX11_number yX11_number ∈ fp_tw := ⟨tw_i 977 (by rfl) rfl, tw_i 979 (by rfl) rfl, tw_i 13 (by rfl) rfl⟩
set_option maxRecDepth 100000 in
theorem cw_X11_127 : Cond.methodLink RX11 127 yX11_isWhole ∈ fp_tw ∧ Cond.static yX11_isWhole ∈ fp_tw := ⟨tw_i 941 (by rfl) rfl, tw_i 942 (by rfl) rfl⟩
set_option maxRecDepth 100000 in
theorem cw_X11_149 : Cond.methodLink RX11 149 yX11_isAtRisk ∈ fp_tw ∧ Cond.instanceMethod yX11_isAtRisk ∈ fp_tw ∧ Cond.selects RX11 yX11_isAtRisk yX11_isAtRisk ∈ fp_tw := ⟨tw_i 956 (by rfl) rfl, tw_i 958 (by rfl) rfl, tw_i 10 (by rfl) rfl⟩
set_option maxRecDepth 100000 in
theorem cw_X11_156 : Cond.methodLink RX11 156 yX11_isBusy ∈ fp_tw ∧ Cond.instanceMethod yX11_isBusy ∈ fp_tw ∧ Cond.selects RX11 yX11_isBusy yX11_isBusy ∈ fp_tw := ⟨tw_i 1004 (by rfl) rfl, tw_i 1006 (by rfl) rfl, tw_i 19 (by rfl) rfl⟩
set_option maxRecDepth 100000 in
theorem cw_X11_159 : Cond.methodLink RX11 159 yX11_sizeOf ∈ fp_tw ∧ Cond.static yX11_sizeOf ∈ fp_tw := ⟨tw_i 997 (by rfl) rfl, tw_i 998 (by rfl) rfl⟩
set_option maxRecDepth 100000 in
theorem cw_X11_163 : Cond.methodLink RX11 163 yX11_fixedName ∈ fp_tw ∧ Cond.static yX11_fixedName ∈ fp_tw := ⟨tw_i 968 (by rfl) rfl, tw_i 969 (by rfl) rfl⟩
set_option maxRecDepth 100000 in
theorem cw_X11_166 : Cond.methodLink RX11 166 yX11_last ∈ fp_tw ∧ Cond.instanceMethod yX11_last ∈ fp_tw ∧ Cond.selects RX11 yX11_last yX11_last ∈ fp_tw := ⟨tw_i 985 (by rfl) rfl, tw_i 987 (by rfl) rfl, tw_i 15 (by rfl) rfl⟩
set_option maxRecDepth 100000 in
theorem cw_X11_170 : Cond.methodLink RX11 170 yX11_text ∈ fp_tw ∧ Cond.instanceMethod yX11_text ∈ fp_tw ∧ Cond.selects RX11 yX11_text yX11_text ∈ fp_tw := ⟨tw_i 1012 (by rfl) rfl, tw_i 1014 (by rfl) rfl, tw_i 21 (by rfl) rfl⟩
set_option maxRecDepth 100000 in
theorem cw_X11_174 : Cond.methodLink RX11 174 yX11_refer ∈ fp_tw ∧ Cond.instanceMethod yX11_refer ∈ fp_tw ∧ Cond.selects RX11 yX11_refer yX11_refer ∈ fp_tw := ⟨tw_i 993 (by rfl) rfl, tw_i 995 (by rfl) rfl, tw_i 17 (by rfl) rfl⟩
set_option maxRecDepth 100000 in
theorem cw_X11_178 : Cond.methodLink RX11 178 yX11_fixedValue ∈ fp_tw ∧ Cond.static yX11_fixedValue ∈ fp_tw := ⟨tw_i 973 (by rfl) rfl, tw_i 974 (by rfl) rfl⟩
set_option maxRecDepth 100000 in
theorem cw_X11_182 : Cond.methodLink RX11 182 yX11_whole ∈ fp_tw ∧ Cond.instanceMethod yX11_whole ∈ fp_tw ∧ Cond.selects RX11 yX11_whole yX11_whole ∈ fp_tw := ⟨tw_i 989 (by rfl) rfl, tw_i 991 (by rfl) rfl, tw_i 16 (by rfl) rfl⟩
set_option maxRecDepth 100000 in
theorem cw_X11_185 : Cond.methodLink RX11 185 yX11_mayInsert ∈ fp_tw ∧ Cond.instanceMethod yX11_mayInsert ∈ fp_tw ∧ Cond.selects RX11 yX11_mayInsert yX11_mayInsert ∈ fp_tw := ⟨tw_i 1000 (by rfl) rfl, tw_i 1002 (by rfl) rfl, tw_i 18 (by rfl) rfl⟩
set_option maxRecDepth 100000 in
theorem cw_X11_188 : Cond.methodLink RX11 188 yX11_insert ∈ fp_tw ∧ Cond.instanceMethod yX11_insert ∈ fp_tw ∧ Cond.selects RX11 yX11_insert yX11_insert ∈ fp_tw := ⟨tw_i 1008 (by rfl) rfl, tw_i 1010 (by rfl) rfl, tw_i 20 (by rfl) rfl⟩
set_option maxRecDepth 100000 in
theorem cw_X11_192 : Cond.methodLink RX11 192 yX11_lying ∈ fp_tw ∧ Cond.instanceMethod yX11_lying ∈ fp_tw ∧ Cond.selects RX11 yX11_lying yX11_lying ∈ fp_tw := ⟨tw_i 952 (by rfl) rfl, tw_i 954 (by rfl) rfl, tw_i 9 (by rfl) rfl⟩
set_option maxRecDepth 100000 in
theorem cw_X11_199 : Cond.methodLink RX11 199 yX11_atRisk ∈ fp_tw ∧ Cond.instanceMethod yX11_atRisk ∈ fp_tw ∧ Cond.selects RX11 yX11_atRisk yX11_atRisk ∈ fp_tw := ⟨tw_i 960 (by rfl) rfl, tw_i 962 (by rfl) rfl, tw_i 11 (by rfl) rfl⟩
set_option maxRecDepth 100000 in
theorem cw_X11_203 : Cond.methodLink RX11 203 yX11_one ∈ fp_tw ∧ Cond.instanceMethod yX11_one ∈ fp_tw ∧ Cond.selects RX11 yX11_one yX11_one ∈ fp_tw := ⟨tw_i 964 (by rfl) rfl, tw_i 966 (by rfl) rfl, tw_i 12 (by rfl) rfl⟩
set_option maxRecDepth 100000 in
theorem cw_X11_210 : Cond.methodLink RX11 210 yX11_tell ∈ fp_tw ∧ Cond.instanceMethod yX11_tell ∈ fp_tw ∧ Cond.selects RX11 yX11_tell yX11_tell ∈ fp_tw := ⟨tw_i 1032 (by rfl) rfl, tw_i 1034 (by rfl) rfl, tw_i 25 (by rfl) rfl⟩
set_option maxRecDepth 100000 in
theorem cw_X11_219 : Cond.methodLink RX11 219 yX11_decode ∈ fp_tw ∧ Cond.instanceMethod yX11_decode ∈ fp_tw ∧ Cond.selects RX11 yX11_decode yX11_decode ∈ fp_tw := ⟨tw_i 1028 (by rfl) rfl, tw_i 1030 (by rfl) rfl, tw_i 24 (by rfl) rfl⟩
set_option maxRecDepth 100000 in
theorem cw_X11_228 : Cond.methodLink RX11 228 yX11_hear ∈ fp_tw ∧ Cond.instanceMethod yX11_hear ∈ fp_tw ∧ Cond.selects RX11 yX11_hear yX11_hear ∈ fp_tw := ⟨tw_i 1020 (by rfl) rfl, tw_i 1022 (by rfl) rfl, tw_i 22 (by rfl) rfl⟩
set_option maxRecDepth 100000 in
theorem cw_X11_237 : Cond.methodLink RX11 237 yX11_goOn ∈ fp_tw ∧ Cond.instanceMethod yX11_goOn ∈ fp_tw ∧ Cond.selects RX11 yX11_goOn yX11_goOn ∈ fp_tw := ⟨tw_i 1024 (by rfl) rfl, tw_i 1026 (by rfl) rfl, tw_i 23 (by rfl) rfl⟩
set_option maxRecDepth 100000 in
theorem cw_X11_240 : Cond.methodLink RX11 240 yX11_next ∈ fp_tw ∧ Cond.instanceMethod yX11_next ∈ fp_tw ∧ Cond.selects RX11 yX11_next yX11_next ∈ fp_tw := ⟨tw_i 1040 (by rfl) rfl, tw_i 1042 (by rfl) rfl, tw_i 26 (by rfl) rfl⟩
set_option maxRecDepth 100000 in
theorem cw_X11_244 : Cond.methodLink RX11 244 yX11_waiting ∈ fp_tw ∧ Cond.instanceMethod yX11_waiting ∈ fp_tw ∧ Cond.selects RX11 yX11_waiting yX11_waiting ∈ fp_tw := ⟨tw_i 1060 (by rfl) rfl, tw_i 1053 (by rfl) rfl, tw_i 1054 (by rfl) rfl⟩
set_option maxRecDepth 100000 in
theorem cw_X11_247 : Cond.methodLink RX11 247 yX11_opens ∈ fp_tw ∧ Cond.instanceMethod yX11_opens ∈ fp_tw ∧ Cond.selects RX11 yX11_opens yX11_opens ∈ fp_tw := ⟨tw_i 1065 (by rfl) rfl, tw_i 1067 (by rfl) rfl, tw_i 27 (by rfl) rfl⟩
set_option maxRecDepth 100000 in
theorem cw_X11_250 : Cond.methodLink RX11 250 yX11_waits ∈ fp_tw ∧ Cond.instanceMethod yX11_waits ∈ fp_tw ∧ Cond.selects RX11 yX11_waits yX11_waits ∈ fp_tw := ⟨tw_i 1069 (by rfl) rfl, tw_i 1071 (by rfl) rfl, tw_i 28 (by rfl) rfl⟩
set_option maxRecDepth 100000 in
theorem cw_Jxa1e45_1 : Cond.methodLink RJxa1e45 1 Lib.objectInit ∈ fp_tw ∧ Cond.instanceMethod Lib.objectInit ∈ fp_tw ∧ Cond.code Lib.objectInit ⟨#[0xb1]⟩ 1 none ∈ fp_tw := ⟨tw_i 177 (by rfl) rfl, tw_i 57 (by rfl) rfl, tw_i 58 (by rfl) rfl⟩
set_option maxRecDepth 100000 in
theorem cw_Jxc12de_1 : Cond.methodLink RJxc12de 1 yJxa1e45_init_da8c8 ∈ fp_tw ∧ Cond.instanceMethod yJxa1e45_init_da8c8 ∈ fp_tw := ⟨tw_i 174 (by rfl) rfl, tw_i 175 (by rfl) rfl⟩
set_option maxRecDepth 100000 in
theorem cw_Jx4a65c_1 : Cond.methodLink RJx4a65c 1 yJxc12de_init_da8c8 ∈ fp_tw ∧ Cond.instanceMethod yJxc12de_init_da8c8 ∈ fp_tw := ⟨tw_i 171 (by rfl) rfl, tw_i 172 (by rfl) rfl⟩
set_option maxRecDepth 100000 in
theorem cw_Jx4a65c_66 : Cond.methodLink RJx4a65c 66 yJ7_copyOf_1904c ∈ fp_tw ∧ Cond.static yJ7_copyOf_1904c ∈ fp_tw := ⟨tw_i 357 (by rfl) rfl, tw_i 358 (by rfl) rfl⟩
set_option maxRecDepth 100000 in
theorem cw_Jx4a65c_69 : Cond.methodLink RJx4a65c 69 yJx4a65c_grow_92f84 ∈ fp_tw ∧ Cond.instanceMethod yJx4a65c_grow_92f84 ∈ fp_tw ∧ Cond.selects RJx4a65c yJx4a65c_grow_92f84 yJx4a65c_grow_92f84 ∈ fp_tw := ⟨tw_i 345 (by rfl) rfl, tw_i 347 (by rfl) rfl, tw_i 2 (by rfl) rfl⟩
set_option maxRecDepth 100000 in
theorem cw_Jx4a65c_73 : Cond.methodLink RJx4a65c 73 yJ8_newLength_cabcc ∈ fp_tw ∧ Cond.static yJ8_newLength_cabcc ∈ fp_tw := ⟨tw_i 349 (by rfl) rfl, tw_i 350 (by rfl) rfl⟩
set_option maxRecDepth 100000 in
theorem cw_Jx4a65c_79 : Cond.methodLink RJx4a65c 79 yJ9_max_7cf53 ∈ fp_tw ∧ Cond.static yJ9_max_7cf53 ∈ fp_tw := ⟨tw_i 387 (by rfl) rfl, tw_i 63 (by rfl) rfl⟩
set_option maxRecDepth 100000 in
theorem cw_Jx4a65c_112 : Cond.methodLink RJx4a65c 112 arraycopyName ∈ fp_tw ∧ Cond.native arraycopyName ∈ fp_tw ∧ Cond.static arraycopyName ∈ fp_tw ∧ Cond.initialized "java/lang/System" ∈ fp_tw := ⟨tw_i 622 (by rfl) rfl, tw_i 386 (by rfl) rfl, tw_i 385 (by rfl) rfl, tw_i 46 (by rfl) rfl⟩
set_option maxRecDepth 100000 in
theorem cw_Jx4a65c_118 : Cond.methodLink RJx4a65c 118 yJ15_checkIndex_7cf53 ∈ fp_tw ∧ Cond.static yJ15_checkIndex_7cf53 ∈ fp_tw := ⟨tw_i 415 (by rfl) rfl, tw_i 416 (by rfl) rfl⟩
set_option maxRecDepth 100000 in
theorem cw_Jx4a65c_123 : Cond.methodLink RJx4a65c 123 yJx4a65c_elementData_915e3 ∈ fp_tw ∧ Cond.instanceMethod yJx4a65c_elementData_915e3 ∈ fp_tw ∧ Cond.selects RJx4a65c yJx4a65c_elementData_915e3 yJx4a65c_elementData_915e3 ∈ fp_tw := ⟨tw_i 421 (by rfl) rfl, tw_i 422 (by rfl) rfl, tw_i 423 (by rfl) rfl⟩
set_option maxRecDepth 100000 in
theorem cw_Jx4a65c_129 : Cond.methodLink RJx4a65c 129 yJx4a65c_grow_d5877 ∈ fp_tw ∧ Cond.instanceMethod yJx4a65c_grow_d5877 ∈ fp_tw ∧ Cond.selects RJx4a65c yJx4a65c_grow_d5877 yJx4a65c_grow_d5877 ∈ fp_tw := ⟨tw_i 341 (by rfl) rfl, tw_i 343 (by rfl) rfl, tw_i 1 (by rfl) rfl⟩
set_option maxRecDepth 100000 in
theorem cw_Jx4a65c_131 : Cond.methodLink RJx4a65c 131 yJx4a65c_add_72be8 ∈ fp_tw ∧ Cond.instanceMethod yJx4a65c_add_72be8 ∈ fp_tw ∧ Cond.selects RJx4a65c yJx4a65c_add_72be8 yJx4a65c_add_72be8 ∈ fp_tw := ⟨tw_i 337 (by rfl) rfl, tw_i 339 (by rfl) rfl, tw_i 0 (by rfl) rfl⟩
set_option maxRecDepth 100000 in
theorem cw_Jx4a65c_144 : Cond.methodLink RJx4a65c 144 yJx4a65c_fastRemove_b59b0 ∈ fp_tw ∧ Cond.instanceMethod yJx4a65c_fastRemove_b59b0 ∈ fp_tw ∧ Cond.selects RJx4a65c yJx4a65c_fastRemove_b59b0 yJx4a65c_fastRemove_b59b0 ∈ fp_tw := ⟨tw_i 618 (by rfl) rfl, tw_i 620 (by rfl) rfl, tw_i 4 (by rfl) rfl⟩
set_option maxRecDepth 100000 in
theorem cw_J7_86 : Cond.methodLink RJ7 86 fp_yGC ∈ fp_tw ∧ Cond.declares fp_yGC ∈ fp_tn ∧ Cond.selects "[Ljava/lang/Object;" fp_yGC fp_yGC ∈ fp_tw ∧ Cond.instanceMethod fp_yGC ∈ fp_tw ∧ Cond.native fp_yGC ∈ fp_tw := ⟨tw_i 360 (by rfl) rfl, tn_i 1093 (by rfl) rfl, tw_i 1092 (by rfl) rfl, tw_i 361 (by rfl) rfl, tw_i 376 (by rfl) rfl⟩
set_option maxRecDepth 100000 in
theorem cw_J7_150 : Cond.methodLink RJ7 150 arraycopyName ∈ fp_tw ∧ Cond.native arraycopyName ∈ fp_tw ∧ Cond.static arraycopyName ∈ fp_tw ∧ Cond.initialized "java/lang/System" ∈ fp_tw := ⟨tw_i 384 (by rfl) rfl, tw_i 386 (by rfl) rfl, tw_i 385 (by rfl) rfl, tw_i 46 (by rfl) rfl⟩
set_option maxRecDepth 100000 in
theorem cw_J7_300 : Cond.methodLink RJ7 300 yJ7_copyOf_6403c ∈ fp_tw ∧ Cond.static yJ7_copyOf_6403c ∈ fp_tw := ⟨tw_i 377 (by rfl) rfl, tw_i 378 (by rfl) rfl⟩
set_option maxRecDepth 100000 in
theorem cw_J7_304 : Cond.methodLink RJ7 304 yJ9_min_7cf53 ∈ fp_tw ∧ Cond.static yJ9_min_7cf53 ∈ fp_tw := ⟨tw_i 383 (by rfl) rfl, tw_i 60 (by rfl) rfl⟩
set_option maxRecDepth 100000 in
theorem cw_J15_105 : Cond.methodLink RJ15 105 yJ3_checkIndex_8e157 ∈ fp_tw ∧ Cond.static yJ3_checkIndex_8e157 ∈ fp_tw := ⟨tw_i 418 (by rfl) rfl, tw_i 419 (by rfl) rfl⟩
set_option maxRecDepth 100000 in
theorem cw_J8_194 : Cond.methodLink RJ8 194 yJ9_max_7cf53 ∈ fp_tw ∧ Cond.static yJ9_max_7cf53 ∈ fp_tw := ⟨tw_i 352 (by rfl) rfl, tw_i 63 (by rfl) rfl⟩
set_option maxRecDepth 100000 in
theorem cw_J8_201 : Cond.methodLink RJ8 201 yJ8_hugeLength_7cf53 ∈ fp_tw ∧ Cond.static yJ8_hugeLength_7cf53 ∈ fp_tw := ⟨tw_i 354 (by rfl) rfl, tw_i 355 (by rfl) rfl⟩
abbrev rm_X10_init : Nat × Nat := (5, 102)
abbrev rm_J9_min_7cf53 : Nat × Nat := (0, 0)
abbrev rm_J9_max_7cf53 : Nat × Nat := (0, 0)
abbrev rm_X9_init : Nat × Nat := (2, 42)
abbrev rm_X0_init : Nat × Nat := (1, 21)
abbrev rm_X6_init : Nat × Nat := (1, 20)
abbrev rm_X2_init : Nat × Nat := (4, 80)
abbrev rm_X8_init : Nat × Nat := (1, 20)
abbrev rm_Jx4a65c_init_da8c8 : Nat × Nat := (3, 60)
abbrev rm_Jxc12de_init_da8c8 : Nat × Nat := (2, 40)
abbrev rm_Jxa1e45_init_da8c8 : Nat × Nat := (1, 20)
abbrev rm_X1_init : Nat × Nat := (2, 41)
abbrev rm_X4_init : Nat × Nat := (4, 80)
abbrev rm_X10_field : Nat × Nat := (7, 157)
abbrev rm_Jx4a65c_size_8abf5 : Nat × Nat := (0, 0)
abbrev rm_X10_isText : Nat × Nat := (1, 23)
abbrev rm_X10_lengthOf : Nat × Nat := (0, 0)
abbrev rm_X3_init : Nat × Nat := (1, 20)
abbrev rm_Jx4a65c_add_9ea2d : Nat × Nat := (6, 136)
abbrev rm_Jx4a65c_add_72be8 : Nat × Nat := (5, 113)
abbrev rm_Jx4a65c_grow_d5877 : Nat × Nat := (4, 93)
abbrev rm_Jx4a65c_grow_92f84 : Nat × Nat := (3, 70)
abbrev rm_J8_newLength_cabcc : Nat × Nat := (1, 21)
abbrev rm_J8_hugeLength_7cf53 : Nat × Nat := (0, 0)
abbrev rm_J7_copyOf_1904c : Nat × Nat := (2, 49)
abbrev rm_J7_copyOf_6403c : Nat × Nat := (1, 26)
abbrev rm_X10_encode : Nat × Nat := (8, 193)
abbrev rm_X10_laneOf : Nat × Nat := (0, 0)
abbrev rm_X9_left : Nat × Nat := (0, 0)
abbrev rm_X2_makeSection : Nat × Nat := (7, 169)
abbrev rm_X2_isAtRisk : Nat × Nat := (3, 64)
abbrev rm_Jx4a65c_get_915e3 : Nat × Nat := (2, 43)
abbrev rm_J15_checkIndex_7cf53 : Nat × Nat := (1, 22)
abbrev rm_J3_checkIndex_8e157 : Nat × Nat := (0, 0)
abbrev rm_Jx4a65c_elementData_915e3 : Nat × Nat := (0, 0)
abbrev rm_X2_streamsAtRisk : Nat × Nat := (4, 86)
abbrev rm_X2_putField : Nat × Nat := (6, 145)
abbrev rm_X10_fixedNamed : Nat × Nat := (0, 0)
abbrev rm_X10_fixedValue : Nat × Nat := (0, 0)
abbrev rm_X0_putNumber : Nat × Nat := (3, 69)
abbrev rm_X0_put : Nat × Nat := (2, 48)
abbrev rm_J7_copyOf_59c91 : Nat × Nat := (1, 26)
abbrev rm_X2_putLiteral : Nat × Nat := (5, 121)
abbrev rm_X8_lastNamed : Nat × Nat := (2, 42)
abbrev rm_X8_nameAt : Nat × Nat := (1, 21)
abbrev rm_X8_has : Nat × Nat := (0, 0)
abbrev rm_X2_mayReferTo : Nat × Nat := (0, 0)
abbrev rm_X2_putNameOf : Nat × Nat := (4, 95)
abbrev rm_X2_noteReference : Nat × Nat := (1, 21)
abbrev rm_X0_putText : Nat × Nat := (4, 95)
abbrev rm_X8_lastOf : Nat × Nat := (2, 42)
abbrev rm_X8_valueAt : Nat × Nat := (1, 21)
abbrev rm_X2_canInsert : Nat × Nat := (4, 86)
abbrev rm_X10_sizeOf : Nat × Nat := (1, 23)
abbrev rm_X8_firstBeside : Nat × Nat := (0, 0)
abbrev rm_X2_firstBusy : Nat × Nat := (3, 64)
abbrev rm_X2_insert : Nat × Nat := (5, 121)
abbrev rm_X8_insert : Nat × Nat := (2, 46)
abbrev rm_X2_putEntry : Nat × Nat := (4, 95)
abbrev rm_X5_init : Nat × Nat := (1, 20)
abbrev rm_X2_putFront : Nat × Nat := (4, 95)
abbrev rm_X0_putAll : Nat × Nat := (3, 69)
abbrev rm_X0_at : Nat × Nat := (0, 0)
abbrev rm_Jx4a65c_clear_da8c8 : Nat × Nat := (0, 0)
abbrev rm_X10_move : Nat × Nat := (9, 207)
abbrev rm_X9_bring : Nat × Nat := (1, 21)
abbrev rm_X2_hear : Nat × Nat := (5, 118)
abbrev rm_X6_left : Nat × Nat := (0, 0)
abbrev rm_X2_hearOne : Nat × Nat := (4, 94)
abbrev rm_X6_front : Nat × Nat := (0, 0)
abbrev rm_X6_takeNumber : Nat × Nat := (1, 21)
abbrev rm_X6_take : Nat × Nat := (0, 0)
abbrev rm_X6_rewind : Nat × Nat := (0, 0)
abbrev rm_X2_closeOldest : Nat × Nat := (3, 72)
abbrev rm_Jx4a65c_remove_915e3 : Nat × Nat := (2, 49)
abbrev rm_Jx4a65c_fastRemove_b59b0 : Nat × Nat := (1, 26)
abbrev rm_X2_closeAll : Nat × Nat := (3, 72)
abbrev rm_X1_obey : Nat × Nat := (5, 119)
abbrev rm_X1_obeyOne : Nat × Nat := (4, 93)
abbrev rm_X1_takeName : Nat × Nat := (3, 71)
abbrev rm_X6_takeText : Nat × Nat := (2, 46)
abbrev rm_X1_release : Nat × Nat := (8, 183)
abbrev rm_X1_readLines : Nat × Nat := (7, 157)
abbrev rm_X1_readLine : Nat × Nat := (3, 71)
abbrev rm_X1_fieldAt : Nat × Nat := (2, 45)
abbrev rm_X10_deliver : Nat × Nat := (9, 207)
abbrev rm_Jx4a65c_isEmpty_aae02 : Nat × Nat := (0, 0)
abbrev rm_X1_receive : Nat × Nat := (5, 102)
abbrev rm_X1_requiredBy : Nat × Nat := (1, 22)
abbrev rm_J9_floorMod_7cf53 : Nat × Nat := (0, 0)
abbrev rm_X7_init : Nat × Nat := (4, 80)
abbrev rm_X10_increment : Nat × Nat := (5, 117)
abbrev rm_X1_tellCome : Nat × Nat := (4, 95)
abbrev rm_X10_cancel : Nat × Nat := (4, 95)
abbrev rm_X10_waiting : Nat × Nat := (4, 86)
abbrev rm_X10_nextSection : Nat × Nat := (3, 64)
abbrev rm_X10_look : Nat × Nat := (4, 86)
abbrev rm_X9_at : Nat × Nat := (1, 21)
abbrev rm_X10_told : Nat × Nat := (6, 129)
abbrev rm_X10_tableOf : Nat × Nat := (0, 0)
abbrev rm_X10_toldByEncoder : Nat × Nat := (5, 108)
abbrev rm_X10_toldByDecoder : Nat × Nat := (1, 20)
abbrev rm_X10_entry : Nat × Nat := (2, 42)
abbrev rm_X10_sections : Nat × Nat := (1, 21)
abbrev rm_X10_decoded : Nat × Nat := (3, 64)
abbrev rm_L_cell : Nat × Nat := (0, 0)
abbrev rm_X11_init : Nat × Nat := (1, 20)
abbrev rm_X11_field : Nat × Nat := (2, 46)
abbrev rm_X11_isWhole : Nat × Nat := (1, 23)
abbrev rm_X11_length : Nat × Nat := (0, 0)
abbrev rm_X11_encode : Nat × Nat := (5, 132)
abbrev rm_X11_lying : Nat × Nat := (0, 0)
abbrev rm_X11_isAtRisk : Nat × Nat := (0, 0)
abbrev rm_X11_atRisk : Nat × Nat := (1, 22)
abbrev rm_X11_one : Nat × Nat := (4, 101)
abbrev rm_X11_fixedName : Nat × Nat := (0, 0)
abbrev rm_X11_fixedValue : Nat × Nat := (0, 0)
abbrev rm_X11_number : Nat × Nat := (1, 22)
abbrev rm_X11_lay : Nat × Nat := (0, 0)
abbrev rm_X11_last : Nat × Nat := (0, 0)
abbrev rm_X11_whole : Nat × Nat := (2, 48)
abbrev rm_X11_refer : Nat × Nat := (0, 0)
abbrev rm_X11_sizeOf : Nat × Nat := (1, 23)
abbrev rm_X11_mayInsert : Nat × Nat := (2, 46)
abbrev rm_X11_isBusy : Nat × Nat := (0, 0)
abbrev rm_X11_insert : Nat × Nat := (3, 74)
abbrev rm_X11_text : Nat × Nat := (2, 48)
abbrev rm_X11_move : Nat × Nat := (5, 113)
abbrev rm_X11_hear : Nat × Nat := (0, 0)
abbrev rm_X11_goOn : Nat × Nat := (4, 91)
abbrev rm_X11_decode : Nat × Nat := (3, 70)
abbrev rm_X11_tell : Nat × Nat := (2, 48)
abbrev rm_X11_deliver : Nat × Nat := (5, 113)
abbrev rm_X11_next : Nat × Nat := (0, 0)
abbrev rm_X11_increment : Nat × Nat := (3, 70)
abbrev rm_X11_cancel : Nat × Nat := (3, 70)
abbrev rm_X11_waiting : Nat × Nat := (1, 22)
abbrev rm_X11_look : Nat × Nat := (2, 44)
abbrev rm_X11_told : Nat × Nat := (2, 48)
abbrev rm_X11_opens : Nat × Nat := (0, 0)
abbrev rm_X11_waits : Nat × Nat := (1, 24)
abbrev rm_X11_entry : Nat × Nat := (0, 0)
abbrev rm_X11_sections : Nat × Nat := (1, 24)
abbrev rm_X11_decoded : Nat × Nat := (0, 0)
