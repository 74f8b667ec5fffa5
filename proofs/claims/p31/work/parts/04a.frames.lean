/-! EACH METHOD: its room, its frame, its fields and its calls in the abstract machine -/
theorem isC_of {k c n : Nat} (h : tbl.elem (k, c, n) = true) : isC k c n := List.elem_iff.mp h
/-- a contract with one answer and one world -/
abbrev AD (g : Gx) (y : MethodName) (ws : List Cond) (rm : Room) (as : List Value) (h : Hp) (v : Option Value) (h' : Hp) : Prop := AC g y ws rm as h (fun r h2 => r = v ∧ h2 = h')
abbrev rmX7_set : Room := { frames := 4, cells := 0, slots := 0, locals := 83 }
abbrev mmX7_set : MI := (wsX7_set, cX7_set, RX7, 4, (some .int), rmX7_set)
abbrev rmX7_add : Room := { frames := 4, cells := 0, slots := 0, locals := 83 }
abbrev mmX7_add : MI := (wsX7_add, cX7_add, RX7, 3, (some .int), rmX7_add)
abbrev rmX7_drop : Room := { frames := 4, cells := 0, slots := 0, locals := 83 }
abbrev mmX7_drop : MI := (wsX7_drop, cX7_drop, RX7, 2, (some .int), rmX7_drop)
abbrev rmX7_ear : Room := { frames := 4, cells := 0, slots := 0, locals := 83 }
abbrev mmX7_ear : MI := (wsX7_ear, cX7_ear, RX7, 4, (some .int), rmX7_ear)
abbrev rmX7_hear : Room := { frames := 4, cells := 0, slots := 0, locals := 83 }
abbrev mmX7_hear : MI := (wsX7_hear, cX7_hear, RX7, 6, (some .int), rmX7_hear)
abbrev rmX7_second : Room := { frames := 4, cells := 0, slots := 0, locals := 83 }
abbrev mmX7_second : MI := (wsX7_second, cX7_second, RX7, 6, (some .int), rmX7_second)
abbrev rmX7_habits : Room := { frames := 4, cells := 0, slots := 0, locals := 83 }
abbrev mmX7_habits : MI := (wsX7_habits, cX7_habits, RX7, 5, (some .int), rmX7_habits)
abbrev rmX7_merge : Room := { frames := 4, cells := 0, slots := 0, locals := 88 }
abbrev mmX7_merge : MI := (wsX7_merge, cX7_merge, RX7, 5, (some .int), rmX7_merge)
abbrev rmX7_split : Room := { frames := 4, cells := 0, slots := 0, locals := 83 }
abbrev mmX7_split : MI := (wsX7_split, cX7_split, RX7, 3, (some .int), rmX7_split)
abbrev rmX7_name : Room := { frames := 3, cells := 0, slots := 0, locals := 68 }
abbrev mmX7_name : MI := (wsX7_name, cX7_name, RX7, 6, (some .int), rmX7_name)
abbrev rmX7_of : Room := { frames := 1, cells := 0, slots := 0, locals := 23 }
abbrev mmX7_of : MI := (wsX7_of, cX7_of, RX7, 5, (some .int), rmX7_of)
abbrev rmX7_ofEar : Room := { frames := 5, cells := 0, slots := 0, locals := 135 }
abbrev mmX7_ofEar : MI := (wsX7_ofEar, cX7_ofEar, RX7, 4, (some .int), rmX7_ofEar)
abbrev rmX7_code : Room := { frames := 5, cells := 0, slots := 0, locals := 135 }
abbrev mmX7_code : MI := (wsX7_code, cX7_code, RX7, 9, (some .int), rmX7_code)
abbrev rmX7_drawer : Room := { frames := 5, cells := 0, slots := 0, locals := 135 }
abbrev mmX7_drawer : MI := (wsX7_drawer, cX7_drawer, RX7, 5, (some .int), rmX7_drawer)
abbrev rmX7_count : Room := { frames := 4, cells := 0, slots := 0, locals := 90 }
abbrev mmX7_count : MI := (wsX7_count, cX7_count, RX7, 2, (some .int), rmX7_count)
abbrev rmX7_alike : Room := { frames := 5, cells := 0, slots := 0, locals := 135 }
abbrev mmX7_alike : MI := (wsX7_alike, cX7_alike, RX7, 5, (some .int), rmX7_alike)
abbrev rmX7_distance : Room := { frames := 3, cells := 0, slots := 0, locals := 75 }
abbrev mmX7_distance : MI := (wsX7_distance, cX7_distance, RX7, 3, (some .int), rmX7_distance)
abbrev rmX7_find : Room := { frames := 5, cells := 0, slots := 0, locals := 137 }
abbrev mmX7_find : MI := (wsX7_find, cX7_find, RX7, 8, (some .int), rmX7_find)
abbrev rmX7_ifMerged : Room := { frames := 6, cells := 0, slots := 0, locals := 158 }
abbrev mmX7_ifMerged : MI := (wsX7_ifMerged, cX7_ifMerged, RX7, 6, (some .int), rmX7_ifMerged)
abbrev rmX7_bestMerger : Room := { frames := 6, cells := 0, slots := 0, locals := 158 }
abbrev mmX7_bestMerger : MI := (wsX7_bestMerger, cX7_bestMerger, RX7, 10, (some .int), rmX7_bestMerger)
abbrev rmX7_quarrel : Room := { frames := 5, cells := 0, slots := 0, locals := 135 }
abbrev mmX7_quarrel : MI := (wsX7_quarrel, cX7_quarrel, RX7, 7, (some .int), rmX7_quarrel)
abbrev rmX7_deafest : Room := { frames := 5, cells := 0, slots := 0, locals := 135 }
abbrev mmX7_deafest : MI := (wsX7_deafest, cX7_deafest, RX7, 6, (some .int), rmX7_deafest)
abbrev rmX7_put : Room := { frames := 1, cells := 0, slots := 0, locals := 26 }
abbrev mmX7_put : MI := (wsX7_put, cX7_put, RX7, 4, (some .int), rmX7_put)
abbrev rmX7_wipe : Room := { frames := 0, cells := 0, slots := 0, locals := 0 }
abbrev mmX7_wipe : MI := (wsX7_wipe, cX7_wipe, RX7, 2, (some .int), rmX7_wipe)
abbrev rmX7_fault : Room := { frames := 1, cells := 0, slots := 0, locals := 21 }
abbrev mmX7_fault : MI := (wsX7_fault, cX7_fault, RX7, 1, (some .int), rmX7_fault)
abbrev rmX7_undo : Room := { frames := 3, cells := 0, slots := 0, locals := 61 }
abbrev mmX7_undo : MI := (wsX7_undo, cX7_undo, RX7, 1, (some .int), rmX7_undo)
abbrev rmX7_save : Room := { frames := 3, cells := 0, slots := 0, locals := 61 }
abbrev mmX7_save : MI := (wsX7_save, cX7_save, RX7, 2, (some .int), rmX7_save)
abbrev rmX7_restore : Room := { frames := 4, cells := 0, slots := 0, locals := 83 }
abbrev mmX7_restore : MI := (wsX7_restore, cX7_restore, RX7, 2, (some .int), rmX7_restore)
abbrev rmX7_isWithin : Room := { frames := 0, cells := 0, slots := 0, locals := 0 }
abbrev mmX7_isWithin : MI := (wsX7_isWithin, cX7_isWithin, RX7, 3, (some .boolean), rmX7_isWithin)
abbrev rmX7_isClass : Room := { frames := 1, cells := 0, slots := 0, locals := 22 }
abbrev mmX7_isClass : MI := (wsX7_isClass, cX7_isClass, RX7, 1, (some .boolean), rmX7_isClass)
abbrev rmX7_canMerge : Room := { frames := 2, cells := 0, slots := 0, locals := 42 }
abbrev mmX7_canMerge : MI := (wsX7_canMerge, cX7_canMerge, RX7, 2, (some .boolean), rmX7_canMerge)
abbrev rmX7_recordChange : Room := { frames := 3, cells := 0, slots := 0, locals := 61 }
abbrev mmX7_recordChange : MI := (wsX7_recordChange, cX7_recordChange, RX7, 3, none, rmX7_recordChange)
abbrev rmX7_fillAsIfMerged : Room := { frames := 5, cells := 0, slots := 0, locals := 135 }
abbrev mmX7_fillAsIfMerged : MI := (wsX7_fillAsIfMerged, cX7_fillAsIfMerged, RX7, 4, none, rmX7_fillAsIfMerged)
abbrev rmX0_with : Room := { frames := 0, cells := 0, slots := 0, locals := 0 }
abbrev mmX0_with : MI := (wsX0_with, cX0_with, RX0, 2, (some .int), rmX0_with)
abbrev rmX0_size : Room := { frames := 0, cells := 0, slots := 0, locals := 0 }
abbrev mmX0_size : MI := (wsX0_size, cX0_size, RX0, 2, (some .int), rmX0_size)
abbrev rmX0_numberAt : Room := { frames := 1, cells := 0, slots := 0, locals := 21 }
abbrev mmX0_numberAt : MI := (wsX0_numberAt, cX0_numberAt, RX0, 3, (some .int), rmX0_numberAt)
abbrev rmX1_fill : Room := { frames := 4, cells := 0, slots := 0, locals := 109 }
abbrev mmX1_fill : MI := (wsX1_fill, cX1_fill, RX1, 7, none, rmX1_fill)
abbrev rmX1_drawerFor : Room := { frames := 0, cells := 0, slots := 0, locals := 0 }
abbrev mmX1_drawerFor : MI := (wsX1_drawerFor, cX1_drawerFor, RX1, 3, (some .int), rmX1_drawerFor)
abbrev rmX1_codesOf : Room := { frames := 0, cells := 0, slots := 0, locals := 0 }
abbrev mmX1_codesOf : MI := (wsX1_codesOf, cX1_codesOf, RX1, 2, (some .int), rmX1_codesOf)
abbrev rmX1_drawerOf : Room := { frames := 1, cells := 0, slots := 0, locals := 21 }
abbrev mmX1_drawerOf : MI := (wsX1_drawerOf, cX1_drawerOf, RX1, 3, (some .int), rmX1_drawerOf)
abbrev rmX1_codeAt : Room := { frames := 0, cells := 0, slots := 0, locals := 0 }
abbrev mmX1_codeAt : MI := (wsX1_codeAt, cX1_codeAt, RX1, 2, (some .int), rmX1_codeAt)
abbrev rmX1_namesAt : Room := { frames := 0, cells := 0, slots := 0, locals := 0 }
abbrev mmX1_namesAt : MI := (wsX1_namesAt, cX1_namesAt, RX1, 2, (some .int), rmX1_namesAt)
abbrev rmX1_byCode : Room := { frames := 0, cells := 0, slots := 0, locals := 0 }
abbrev mmX1_byCode : MI := (wsX1_byCode, cX1_byCode, RX1, 5, (some .int), rmX1_byCode)
abbrev rmX1_namesInFullest : Room := { frames := 1, cells := 0, slots := 0, locals := 21 }
abbrev mmX1_namesInFullest : MI := (wsX1_namesInFullest, cX1_namesInFullest, RX1, 3, (some .int), rmX1_namesInFullest)
abbrev rmX1_namesInSeveral : Room := { frames := 0, cells := 0, slots := 0, locals := 0 }
abbrev mmX1_namesInSeveral : MI := (wsX1_namesInSeveral, cX1_namesInSeveral, RX1, 3, (some .int), rmX1_namesInSeveral)
abbrev rmX1_namesLike : Room := { frames := 2, cells := 0, slots := 0, locals := 43 }
abbrev mmX1_namesLike : MI := (wsX1_namesLike, cX1_namesLike, RX1, 5, (some .int), rmX1_namesLike)
abbrev rmX1_namesHeardLike : Room := { frames := 4, cells := 0, slots := 0, locals := 109 }
abbrev mmX1_namesHeardLike : MI := (wsX1_namesHeardLike, cX1_namesHeardLike, RX1, 9, (some .int), rmX1_namesHeardLike)
abbrev rmX1_alikePairs : Room := { frames := 3, cells := 0, slots := 0, locals := 67 }
abbrev mmX1_alikePairs : MI := (wsX1_alikePairs, cX1_alikePairs, RX1, 3, (some .int), rmX1_alikePairs)
abbrev rmX2_beAsAtFirst : Room := { frames := 0, cells := 0, slots := 0, locals := 0 }
abbrev mmX2_beAsAtFirst : MI := (wsX2_beAsAtFirst, cX2_beAsAtFirst, RX2, 2, none, rmX2_beAsAtFirst)
abbrev rmX2_beAs : Room := { frames := 1, cells := 0, slots := 0, locals := 18 }
abbrev mmX2_beAs : MI := (wsX2_beAs, cX2_beAs, RX2, 2, none, rmX2_beAs)
abbrev rmX2_loseSameSecond : Room := { frames := 0, cells := 0, slots := 0, locals := 0 }
abbrev mmX2_loseSameSecond : MI := (wsX2_loseSameSecond, cX2_loseSameSecond, RX2, 2, none, rmX2_loseSameSecond)
abbrev rmX2_lettersOf : Room := { frames := 0, cells := 0, slots := 0, locals := 0 }
abbrev mmX2_lettersOf : MI := (wsX2_lettersOf, cX2_lettersOf, RX2, 4, (some .int), rmX2_lettersOf)
abbrev rmX2_lettersWithSecond : Room := { frames := 0, cells := 0, slots := 0, locals := 0 }
abbrev mmX2_lettersWithSecond : MI := (wsX2_lettersWithSecond, cX2_lettersWithSecond, RX2, 3, (some .int), rmX2_lettersWithSecond)
abbrev rmX2_mergeClasses : Room := { frames := 3, cells := 0, slots := 0, locals := 62 }
abbrev mmX2_mergeClasses : MI := (wsX2_mergeClasses, cX2_mergeClasses, RX2, 7, none, rmX2_mergeClasses)
abbrev rmX2_remember : Room := { frames := 2, cells := 0, slots := 0, locals := 38 }
abbrev mmX2_remember : MI := (wsX2_remember, cX2_remember, RX2, 5, none, rmX2_remember)
abbrev rmX2_forgetOldest : Room := { frames := 1, cells := 0, slots := 0, locals := 18 }
abbrev mmX2_forgetOldest : MI := (wsX2_forgetOldest, cX2_forgetOldest, RX2, 1, none, rmX2_forgetOldest)
abbrev rmX2_splitLatest : Room := { frames := 1, cells := 0, slots := 0, locals := 21 }
abbrev mmX2_splitLatest : MI := (wsX2_splitLatest, cX2_splitLatest, RX2, 5, (some .int), rmX2_splitLatest)
abbrev rmX2_writeCodes : Room := { frames := 3, cells := 0, slots := 0, locals := 79 }
abbrev mmX2_writeCodes : MI := (wsX2_writeCodes, cX2_writeCodes, RX2, 11, (some .int), rmX2_writeCodes)
abbrev rmX2_waysToHear : Room := { frames := 2, cells := 0, slots := 0, locals := 47 }
abbrev mmX2_waysToHear : MI := (wsX2_waysToHear, cX2_waysToHear, RX2, 6, (some .int), rmX2_waysToHear)
abbrev rmX2_codeByWay : Room := { frames := 2, cells := 0, slots := 0, locals := 47 }
abbrev mmX2_codeByWay : MI := (wsX2_codeByWay, cX2_codeByWay, RX2, 13, (some .int), rmX2_codeByWay)
abbrev rmX2_byHabit : Room := { frames := 1, cells := 0, slots := 0, locals := 22 }
abbrev mmX2_byHabit : MI := (wsX2_byHabit, cX2_byHabit, RX2, 6, (some .int), rmX2_byHabit)
abbrev rmX3_between : Room := { frames := 2, cells := 0, slots := 0, locals := 44 }
abbrev mmX3_between : MI := (wsX3_between, cX3_between, RX3, 12, (some .int), rmX3_between)
abbrev rmX3_ranked : Room := { frames := 3, cells := 0, slots := 0, locals := 75 }
abbrev mmX3_ranked : MI := (wsX3_ranked, cX3_ranked, RX3, 7, (some .int), rmX3_ranked)
abbrev rmX3_namesAhead : Room := { frames := 0, cells := 0, slots := 0, locals := 0 }
abbrev mmX3_namesAhead : MI := (wsX3_namesAhead, cX3_namesAhead, RX3, 6, (some .int), rmX3_namesAhead)
abbrev rmX4_charactersIn : Room := { frames := 0, cells := 0, slots := 0, locals := 0 }
abbrev mmX4_charactersIn : MI := (wsX4_charactersIn, cX4_charactersIn, RX4, 7, (some .int), rmX4_charactersIn)
abbrev rmX4_append : Room := { frames := 0, cells := 0, slots := 0, locals := 0 }
abbrev mmX4_append : MI := (wsX4_append, cX4_append, RX4, 5, none, rmX4_append)
abbrev rmX4_firstFault : Room := { frames := 0, cells := 0, slots := 0, locals := 0 }
abbrev mmX4_firstFault : MI := (wsX4_firstFault, cX4_firstFault, RX4, 2, (some .int), rmX4_firstFault)
abbrev rmX4_asWord : Room := { frames := 1, cells := 0, slots := 0, locals := 23 }
abbrev mmX4_asWord : MI := (wsX4_asWord, cX4_asWord, RX4, 4, (some .long), rmX4_asWord)
abbrev rmX5_beAs : Room := { frames := 2, cells := 0, slots := 0, locals := 39 }
abbrev mmX5_beAs : MI := (wsX5_beAs, cX5_beAs, RX5, 3, none, rmX5_beAs)
abbrev rmX5_hasName : Room := { frames := 0, cells := 0, slots := 0, locals := 0 }
abbrev mmX5_hasName : MI := (wsX5_hasName, cX5_hasName, RX5, 2, (some .boolean), rmX5_hasName)
abbrev rmX5_holds : Room := { frames := 0, cells := 0, slots := 0, locals := 0 }
abbrev mmX5_holds : MI := (wsX5_holds, cX5_holds, RX5, 4, (some .boolean), rmX5_holds)
abbrev rmX5_removeName : Room := { frames := 0, cells := 0, slots := 0, locals := 0 }
abbrev mmX5_removeName : MI := (wsX5_removeName, cX5_removeName, RX5, 3, none, rmX5_removeName)
abbrev rmX5_lettersInNames : Room := { frames := 3, cells := 0, slots := 0, locals := 68 }
abbrev mmX5_lettersInNames : MI := (wsX5_lettersInNames, cX5_lettersInNames, RX5, 3, (some .int), rmX5_lettersInNames)
abbrev rmX5_earAt : Room := { frames := 0, cells := 0, slots := 0, locals := 0 }
abbrev mmX5_earAt : MI := (wsX5_earAt, cX5_earAt, RX5, 2, (some (.object "ConsonantIndex$Ear")), rmX5_earAt)
abbrev rmX6_isLetter : Room := { frames := 0, cells := 0, slots := 0, locals := 0 }
abbrev mmX6_isLetter : MI := (wsX6_isLetter, cX6_isLetter, RX6, 1, (some .boolean), rmX6_isLetter)
abbrev rmX6_with : Room := { frames := 0, cells := 0, slots := 0, locals := 0 }
abbrev mmX6_with : MI := (wsX6_with, cX6_with, RX6, 4, (some .long), rmX6_with)
abbrev rmX6_letterAt : Room := { frames := 0, cells := 0, slots := 0, locals := 0 }
abbrev mmX6_letterAt : MI := (wsX6_letterAt, cX6_letterAt, RX6, 3, (some .int), rmX6_letterAt)
abbrev rmX6_size : Room := { frames := 1, cells := 0, slots := 0, locals := 22 }
abbrev mmX6_size : MI := (wsX6_size, cX6_size, RX6, 3, (some .int), rmX6_size)
abbrev rmX6_letterSet : Room := { frames := 2, cells := 0, slots := 0, locals := 44 }
abbrev mmX6_letterSet : MI := (wsX6_letterSet, cX6_letterSet, RX6, 5, (some .int), rmX6_letterSet)
abbrev rmJ6_bitCount_0f7a4 : Room := { frames := 0, cells := 0, slots := 0, locals := 0 }
abbrev mmJ6_bitCount_0f7a4 : MI := (wsJ6_bitCount_0f7a4, cJ6_bitCount_0f7a4, RJ6, 1, (some .int), rmJ6_bitCount_0f7a4)
theorem fs0_0 (k : Nat) (h : Hp) (x : Int32) : fl (setI h k (upd (h.1 k) 0 x)) k 0 = (fl h k 0).set 0 (.int x) := by simp [fl, setI, va_up_self, upd]
theorem fs0_3 (k : Nat) (h : Hp) (x : Int32) : fl (setI h k (upd (h.1 k) 3 x)) k 0 = (fl h k 0).set 3 (.int x) := by simp [fl, setI, va_up_self, upd]
theorem fs1_2 (k : Nat) (h : Hp) (x : Int32) : fl (setI h k (upd (h.1 k) 2 x)) k 1 = (fl h k 1).set 2 (.int x) := by simp [fl, setI, va_up_self, upd]
theorem fs1_3 (k : Nat) (h : Hp) (x : Int32) : fl (setI h k (upd (h.1 k) 3 x)) k 1 = (fl h k 1).set 3 (.int x) := by simp [fl, setI, va_up_self, upd]
theorem fs3_1 (k : Nat) (h : Hp) (x : Int32) : fl (setI h k (upd (h.1 k) 1 x)) k 3 = (fl h k 3).set 1 (.int x) := by simp [fl, setI, va_up_self, upd]
theorem fs4_0 (k : Nat) (h : Hp) (x : Int32) : fl (setI h k (upd (h.1 k) 0 x)) k 4 = (fl h k 4).set 0 (.int x) := by simp [fl, setI, va_up_self, upd]
theorem fs4_1 (k : Nat) (h : Hp) (x : Int32) : fl (setI h k (upd (h.1 k) 1 x)) k 4 = (fl h k 4).set 1 (.int x) := by simp [fl, setI, va_up_self, upd]
theorem fs4_2 (k : Nat) (h : Hp) (x : Int32) : fl (setI h k (upd (h.1 k) 2 x)) k 4 = (fl h k 4).set 2 (.int x) := by simp [fl, setI, va_up_self, upd]
theorem fs4_4 (k : Nat) (h : Hp) (x : Int32) : fl (setI h k (upd (h.1 k) 4 x)) k 4 = (fl h k 4).set 4 (.int x) := by simp [fl, setI, va_up_self, upd]
theorem fs5_2 (k : Nat) (h : Hp) (x : Int32) : fl (setI h k (upd (h.1 k) 2 x)) k 5 = (fl h k 5).set 2 (.int x) := by simp [fl, setI, va_up_self, upd]
