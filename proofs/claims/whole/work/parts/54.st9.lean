/-! an order of a text -/
theorem cv_98 (w : WS) (a b c : Int32) : vX6_carryOutOrder w 98 a b c = vX5_bookWheel w a b c := by
  unfold vX6_carryOutOrder
  rw [if_pos rfl]
theorem cw_98 (w : WS) (a b c : Int32) : wX6_carryOutOrder w 98 a b c = wX5_bookWheel w a b c := by
  unfold wX6_carryOutOrder
  rw [if_pos rfl]
theorem no_98 (z : Nat → Int32) (a b c : Int32) : zNo z 98 a b c = vX7_noBook (mz z) a b c := by
  unfold zNo vX7_noOrder
  rw [if_pos rfl]
theorem do_98 (z : Nat → Int32) (a b c : Int32) : zDo z 98 a b c = (wX7_doBook (mz z) a b c (cl b) (cl c)).1 0 := by
  unfold zDo wX7_doOrder
  rw [if_pos rfl]
theorem cv_102 (w : WS) (a b c : Int32) : vX6_carryOutOrder w 102 a b c = cFireV w a := by
  unfold vX6_carryOutOrder
  rw [if_neg (by decide : ¬ (102 : Int32) = 98), if_neg (by decide : ¬ (102 : Int32) = 99), if_neg (by decide : ¬ (102 : Int32) = 100), if_neg (by decide : ¬ (102 : Int32) = 101), if_pos rfl]
theorem cw_102 (w : WS) (a b c : Int32) : wX6_carryOutOrder w 102 a b c = cFireW w a := by
  unfold wX6_carryOutOrder
  rw [if_neg (by decide : ¬ (102 : Int32) = 98), if_neg (by decide : ¬ (102 : Int32) = 99), if_neg (by decide : ¬ (102 : Int32) = 100), if_neg (by decide : ¬ (102 : Int32) = 101), if_pos rfl]
theorem no_102 (z : Nat → Int32) (a b c : Int32) : zNo z 102 a b c = vX7_noFire (mz z) a := by
  unfold zNo vX7_noOrder
  rw [if_neg (by decide : ¬ (102 : Int32) = 98), if_neg (by decide : ¬ (102 : Int32) = 99), if_neg (by decide : ¬ (102 : Int32) = 100), if_neg (by decide : ¬ (102 : Int32) = 101), if_pos rfl]
theorem do_102 (z : Nat → Int32) (a b c : Int32) : zDo z 102 a b c = (zDoFire (mz z) a).1 0 := by
  unfold zDo wX7_doOrder
  rw [if_neg (by decide : ¬ (102 : Int32) = 98), if_neg (by decide : ¬ (102 : Int32) = 99), if_neg (by decide : ¬ (102 : Int32) = 100), if_neg (by decide : ¬ (102 : Int32) = 101), if_pos rfl]
theorem cv_103 (w : WS) (a b c : Int32) : vX6_carryOutOrder w 103 a b c = vX5_glazePot w a b := by
  unfold vX6_carryOutOrder
  rw [if_neg (by decide : ¬ (103 : Int32) = 98), if_neg (by decide : ¬ (103 : Int32) = 99), if_neg (by decide : ¬ (103 : Int32) = 100), if_neg (by decide : ¬ (103 : Int32) = 101), if_neg (by decide : ¬ (103 : Int32) = 102), if_pos rfl]
theorem cw_103 (w : WS) (a b c : Int32) : wX6_carryOutOrder w 103 a b c = wX5_glazePot w a b := by
  unfold wX6_carryOutOrder
  rw [if_neg (by decide : ¬ (103 : Int32) = 98), if_neg (by decide : ¬ (103 : Int32) = 99), if_neg (by decide : ¬ (103 : Int32) = 100), if_neg (by decide : ¬ (103 : Int32) = 101), if_neg (by decide : ¬ (103 : Int32) = 102), if_pos rfl]
theorem no_103 (z : Nat → Int32) (a b c : Int32) : zNo z 103 a b c = vX7_noGlaze (mz z) a b := by
  unfold zNo vX7_noOrder
  rw [if_neg (by decide : ¬ (103 : Int32) = 98), if_neg (by decide : ¬ (103 : Int32) = 99), if_neg (by decide : ¬ (103 : Int32) = 100), if_neg (by decide : ¬ (103 : Int32) = 101), if_neg (by decide : ¬ (103 : Int32) = 102), if_pos rfl]
theorem do_103 (z : Nat → Int32) (a b c : Int32) : zDo z 103 a b c = (wX7_doGlaze (mz z) a b (cl a) (cl b)).1 0 := by
  unfold zDo wX7_doOrder
  rw [if_neg (by decide : ¬ (103 : Int32) = 98), if_neg (by decide : ¬ (103 : Int32) = 99), if_neg (by decide : ¬ (103 : Int32) = 100), if_neg (by decide : ¬ (103 : Int32) = 101), if_neg (by decide : ¬ (103 : Int32) = 102), if_pos rfl]
theorem cv_104 (w : WS) (a b c : Int32) : vX6_carryOutOrder w 104 a b c = vX5_handOver w a := by
  unfold vX6_carryOutOrder
  rw [if_neg (by decide : ¬ (104 : Int32) = 98), if_neg (by decide : ¬ (104 : Int32) = 99), if_neg (by decide : ¬ (104 : Int32) = 100), if_neg (by decide : ¬ (104 : Int32) = 101), if_neg (by decide : ¬ (104 : Int32) = 102), if_neg (by decide : ¬ (104 : Int32) = 103), if_pos rfl]
theorem cw_104 (w : WS) (a b c : Int32) : wX6_carryOutOrder w 104 a b c = wX5_handOver w a := by
  unfold wX6_carryOutOrder
  rw [if_neg (by decide : ¬ (104 : Int32) = 98), if_neg (by decide : ¬ (104 : Int32) = 99), if_neg (by decide : ¬ (104 : Int32) = 100), if_neg (by decide : ¬ (104 : Int32) = 101), if_neg (by decide : ¬ (104 : Int32) = 102), if_neg (by decide : ¬ (104 : Int32) = 103), if_pos rfl]
theorem no_104 (z : Nat → Int32) (a b c : Int32) : zNo z 104 a b c = vX7_noTakeHome (mz z) a := by
  unfold zNo vX7_noOrder
  rw [if_neg (by decide : ¬ (104 : Int32) = 98), if_neg (by decide : ¬ (104 : Int32) = 99), if_neg (by decide : ¬ (104 : Int32) = 100), if_neg (by decide : ¬ (104 : Int32) = 101), if_neg (by decide : ¬ (104 : Int32) = 102), if_neg (by decide : ¬ (104 : Int32) = 103), if_pos rfl]
theorem do_104 (z : Nat → Int32) (a b c : Int32) : zDo z 104 a b c = (wX7_doTakeHome (mz z) a (cl a)).1 0 := by
  unfold zDo wX7_doOrder
  rw [if_neg (by decide : ¬ (104 : Int32) = 98), if_neg (by decide : ¬ (104 : Int32) = 99), if_neg (by decide : ¬ (104 : Int32) = 100), if_neg (by decide : ¬ (104 : Int32) = 101), if_neg (by decide : ¬ (104 : Int32) = 102), if_neg (by decide : ¬ (104 : Int32) = 103), if_pos rfl]
theorem cv_108 (w : WS) (a b c : Int32) : vX6_carryOutOrder w 108 a b c = vX5_moveIntoKiln w a := by
  unfold vX6_carryOutOrder
  rw [if_neg (by decide : ¬ (108 : Int32) = 98), if_neg (by decide : ¬ (108 : Int32) = 99), if_neg (by decide : ¬ (108 : Int32) = 100), if_neg (by decide : ¬ (108 : Int32) = 101), if_neg (by decide : ¬ (108 : Int32) = 102), if_neg (by decide : ¬ (108 : Int32) = 103), if_neg (by decide : ¬ (108 : Int32) = 104), if_neg (by decide : ¬ (108 : Int32) = 105), if_neg (by decide : ¬ (108 : Int32) = 106), if_neg (by decide : ¬ (108 : Int32) = 107), if_pos rfl]
theorem cw_108 (w : WS) (a b c : Int32) : wX6_carryOutOrder w 108 a b c = wX5_moveIntoKiln w a := by
  unfold wX6_carryOutOrder
  rw [if_neg (by decide : ¬ (108 : Int32) = 98), if_neg (by decide : ¬ (108 : Int32) = 99), if_neg (by decide : ¬ (108 : Int32) = 100), if_neg (by decide : ¬ (108 : Int32) = 101), if_neg (by decide : ¬ (108 : Int32) = 102), if_neg (by decide : ¬ (108 : Int32) = 103), if_neg (by decide : ¬ (108 : Int32) = 104), if_neg (by decide : ¬ (108 : Int32) = 105), if_neg (by decide : ¬ (108 : Int32) = 106), if_neg (by decide : ¬ (108 : Int32) = 107), if_pos rfl]
theorem no_108 (z : Nat → Int32) (a b c : Int32) : zNo z 108 a b c = vX7_noLoad (mz z) a := by
  unfold zNo vX7_noOrder
  rw [if_neg (by decide : ¬ (108 : Int32) = 98), if_neg (by decide : ¬ (108 : Int32) = 99), if_neg (by decide : ¬ (108 : Int32) = 100), if_neg (by decide : ¬ (108 : Int32) = 101), if_neg (by decide : ¬ (108 : Int32) = 102), if_neg (by decide : ¬ (108 : Int32) = 103), if_neg (by decide : ¬ (108 : Int32) = 104), if_neg (by decide : ¬ (108 : Int32) = 105), if_neg (by decide : ¬ (108 : Int32) = 106), if_neg (by decide : ¬ (108 : Int32) = 107), if_pos rfl]
theorem do_108 (z : Nat → Int32) (a b c : Int32) : zDo z 108 a b c = (wX7_doLoad (mz z) a (cl a)).1 0 := by
  unfold zDo wX7_doOrder
  rw [if_neg (by decide : ¬ (108 : Int32) = 98), if_neg (by decide : ¬ (108 : Int32) = 99), if_neg (by decide : ¬ (108 : Int32) = 100), if_neg (by decide : ¬ (108 : Int32) = 101), if_neg (by decide : ¬ (108 : Int32) = 102), if_neg (by decide : ¬ (108 : Int32) = 103), if_neg (by decide : ¬ (108 : Int32) = 104), if_neg (by decide : ¬ (108 : Int32) = 105), if_neg (by decide : ¬ (108 : Int32) = 106), if_neg (by decide : ¬ (108 : Int32) = 107), if_pos rfl]
theorem cv_110 (w : WS) (a b c : Int32) : vX6_carryOutOrder w 110 a b c = cPassV w a := by
  unfold vX6_carryOutOrder
  rw [if_neg (by decide : ¬ (110 : Int32) = 98), if_neg (by decide : ¬ (110 : Int32) = 99), if_neg (by decide : ¬ (110 : Int32) = 100), if_neg (by decide : ¬ (110 : Int32) = 101), if_neg (by decide : ¬ (110 : Int32) = 102), if_neg (by decide : ¬ (110 : Int32) = 103), if_neg (by decide : ¬ (110 : Int32) = 104), if_neg (by decide : ¬ (110 : Int32) = 105), if_neg (by decide : ¬ (110 : Int32) = 106), if_neg (by decide : ¬ (110 : Int32) = 107), if_neg (by decide : ¬ (110 : Int32) = 108), if_neg (by decide : ¬ (110 : Int32) = 109), if_pos rfl]
theorem cw_110 (w : WS) (a b c : Int32) : wX6_carryOutOrder w 110 a b c = cPassW w a := by
  unfold wX6_carryOutOrder
  rw [if_neg (by decide : ¬ (110 : Int32) = 98), if_neg (by decide : ¬ (110 : Int32) = 99), if_neg (by decide : ¬ (110 : Int32) = 100), if_neg (by decide : ¬ (110 : Int32) = 101), if_neg (by decide : ¬ (110 : Int32) = 102), if_neg (by decide : ¬ (110 : Int32) = 103), if_neg (by decide : ¬ (110 : Int32) = 104), if_neg (by decide : ¬ (110 : Int32) = 105), if_neg (by decide : ¬ (110 : Int32) = 106), if_neg (by decide : ¬ (110 : Int32) = 107), if_neg (by decide : ¬ (110 : Int32) = 108), if_neg (by decide : ¬ (110 : Int32) = 109), if_pos rfl]
theorem no_110 (z : Nat → Int32) (a b c : Int32) : zNo z 110 a b c = vX7_noPass (mz z) a := by
  unfold zNo vX7_noOrder
  rw [if_neg (by decide : ¬ (110 : Int32) = 98), if_neg (by decide : ¬ (110 : Int32) = 99), if_neg (by decide : ¬ (110 : Int32) = 100), if_neg (by decide : ¬ (110 : Int32) = 101), if_neg (by decide : ¬ (110 : Int32) = 102), if_neg (by decide : ¬ (110 : Int32) = 103), if_neg (by decide : ¬ (110 : Int32) = 104), if_neg (by decide : ¬ (110 : Int32) = 105), if_neg (by decide : ¬ (110 : Int32) = 106), if_neg (by decide : ¬ (110 : Int32) = 107), if_neg (by decide : ¬ (110 : Int32) = 108), if_neg (by decide : ¬ (110 : Int32) = 109), if_pos rfl]
theorem do_110 (z : Nat → Int32) (a b c : Int32) : zDo z 110 a b c = (zPassN (mz z) (cl a)).1 0 := by
  unfold zDo wX7_doOrder
  rw [if_neg (by decide : ¬ (110 : Int32) = 98), if_neg (by decide : ¬ (110 : Int32) = 99), if_neg (by decide : ¬ (110 : Int32) = 100), if_neg (by decide : ¬ (110 : Int32) = 101), if_neg (by decide : ¬ (110 : Int32) = 102), if_neg (by decide : ¬ (110 : Int32) = 103), if_neg (by decide : ¬ (110 : Int32) = 104), if_neg (by decide : ¬ (110 : Int32) = 105), if_neg (by decide : ¬ (110 : Int32) = 106), if_neg (by decide : ¬ (110 : Int32) = 107), if_neg (by decide : ¬ (110 : Int32) = 108), if_neg (by decide : ¬ (110 : Int32) = 109), if_pos rfl]
theorem cv_112 (w : WS) (a b c : Int32) : vX6_carryOutOrder w 112 a b c = vX5_admitPupil w := by
  unfold vX6_carryOutOrder
  rw [if_neg (by decide : ¬ (112 : Int32) = 98), if_neg (by decide : ¬ (112 : Int32) = 99), if_neg (by decide : ¬ (112 : Int32) = 100), if_neg (by decide : ¬ (112 : Int32) = 101), if_neg (by decide : ¬ (112 : Int32) = 102), if_neg (by decide : ¬ (112 : Int32) = 103), if_neg (by decide : ¬ (112 : Int32) = 104), if_neg (by decide : ¬ (112 : Int32) = 105), if_neg (by decide : ¬ (112 : Int32) = 106), if_neg (by decide : ¬ (112 : Int32) = 107), if_neg (by decide : ¬ (112 : Int32) = 108), if_neg (by decide : ¬ (112 : Int32) = 109), if_neg (by decide : ¬ (112 : Int32) = 110), if_neg (by decide : ¬ (112 : Int32) = 111), if_pos rfl]
theorem cw_112 (w : WS) (a b c : Int32) : wX6_carryOutOrder w 112 a b c = wX5_admitPupil w := by
  unfold wX6_carryOutOrder
  rw [if_neg (by decide : ¬ (112 : Int32) = 98), if_neg (by decide : ¬ (112 : Int32) = 99), if_neg (by decide : ¬ (112 : Int32) = 100), if_neg (by decide : ¬ (112 : Int32) = 101), if_neg (by decide : ¬ (112 : Int32) = 102), if_neg (by decide : ¬ (112 : Int32) = 103), if_neg (by decide : ¬ (112 : Int32) = 104), if_neg (by decide : ¬ (112 : Int32) = 105), if_neg (by decide : ¬ (112 : Int32) = 106), if_neg (by decide : ¬ (112 : Int32) = 107), if_neg (by decide : ¬ (112 : Int32) = 108), if_neg (by decide : ¬ (112 : Int32) = 109), if_neg (by decide : ¬ (112 : Int32) = 110), if_neg (by decide : ¬ (112 : Int32) = 111), if_pos rfl]
theorem cv_116 (w : WS) (a b c : Int32) : vX6_carryOutOrder w 116 a b c = vX5_throwClay w a b := by
  unfold vX6_carryOutOrder
  rw [if_neg (by decide : ¬ (116 : Int32) = 98), if_neg (by decide : ¬ (116 : Int32) = 99), if_neg (by decide : ¬ (116 : Int32) = 100), if_neg (by decide : ¬ (116 : Int32) = 101), if_neg (by decide : ¬ (116 : Int32) = 102), if_neg (by decide : ¬ (116 : Int32) = 103), if_neg (by decide : ¬ (116 : Int32) = 104), if_neg (by decide : ¬ (116 : Int32) = 105), if_neg (by decide : ¬ (116 : Int32) = 106), if_neg (by decide : ¬ (116 : Int32) = 107), if_neg (by decide : ¬ (116 : Int32) = 108), if_neg (by decide : ¬ (116 : Int32) = 109), if_neg (by decide : ¬ (116 : Int32) = 110), if_neg (by decide : ¬ (116 : Int32) = 111), if_neg (by decide : ¬ (116 : Int32) = 112), if_neg (by decide : ¬ (116 : Int32) = 113), if_neg (by decide : ¬ (116 : Int32) = 114), if_neg (by decide : ¬ (116 : Int32) = 115), if_pos rfl]
theorem cw_116 (w : WS) (a b c : Int32) : wX6_carryOutOrder w 116 a b c = wX5_throwClay w a b := by
  unfold wX6_carryOutOrder
  rw [if_neg (by decide : ¬ (116 : Int32) = 98), if_neg (by decide : ¬ (116 : Int32) = 99), if_neg (by decide : ¬ (116 : Int32) = 100), if_neg (by decide : ¬ (116 : Int32) = 101), if_neg (by decide : ¬ (116 : Int32) = 102), if_neg (by decide : ¬ (116 : Int32) = 103), if_neg (by decide : ¬ (116 : Int32) = 104), if_neg (by decide : ¬ (116 : Int32) = 105), if_neg (by decide : ¬ (116 : Int32) = 106), if_neg (by decide : ¬ (116 : Int32) = 107), if_neg (by decide : ¬ (116 : Int32) = 108), if_neg (by decide : ¬ (116 : Int32) = 109), if_neg (by decide : ¬ (116 : Int32) = 110), if_neg (by decide : ¬ (116 : Int32) = 111), if_neg (by decide : ¬ (116 : Int32) = 112), if_neg (by decide : ¬ (116 : Int32) = 113), if_neg (by decide : ¬ (116 : Int32) = 114), if_neg (by decide : ¬ (116 : Int32) = 115), if_pos rfl]
theorem no_116 (z : Nat → Int32) (a b c : Int32) : zNo z 116 a b c = vX7_noThrow (mz z) a b := by
  unfold zNo vX7_noOrder
  rw [if_neg (by decide : ¬ (116 : Int32) = 98), if_neg (by decide : ¬ (116 : Int32) = 99), if_neg (by decide : ¬ (116 : Int32) = 100), if_neg (by decide : ¬ (116 : Int32) = 101), if_neg (by decide : ¬ (116 : Int32) = 102), if_neg (by decide : ¬ (116 : Int32) = 103), if_neg (by decide : ¬ (116 : Int32) = 104), if_neg (by decide : ¬ (116 : Int32) = 105), if_neg (by decide : ¬ (116 : Int32) = 106), if_neg (by decide : ¬ (116 : Int32) = 107), if_neg (by decide : ¬ (116 : Int32) = 108), if_neg (by decide : ¬ (116 : Int32) = 109), if_neg (by decide : ¬ (116 : Int32) = 110), if_neg (by decide : ¬ (116 : Int32) = 111), if_neg (by decide : ¬ (116 : Int32) = 112), if_neg (by decide : ¬ (116 : Int32) = 113), if_neg (by decide : ¬ (116 : Int32) = 114), if_neg (by decide : ¬ (116 : Int32) = 115), if_pos rfl]
theorem do_116 (z : Nat → Int32) (a b c : Int32) : zDo z 116 a b c = (wX7_doThrow (mz z) a b (cl a)).1 0 := by
  unfold zDo wX7_doOrder
  rw [if_neg (by decide : ¬ (116 : Int32) = 98), if_neg (by decide : ¬ (116 : Int32) = 99), if_neg (by decide : ¬ (116 : Int32) = 100), if_neg (by decide : ¬ (116 : Int32) = 101), if_neg (by decide : ¬ (116 : Int32) = 102), if_neg (by decide : ¬ (116 : Int32) = 103), if_neg (by decide : ¬ (116 : Int32) = 104), if_neg (by decide : ¬ (116 : Int32) = 105), if_neg (by decide : ¬ (116 : Int32) = 106), if_neg (by decide : ¬ (116 : Int32) = 107), if_neg (by decide : ¬ (116 : Int32) = 108), if_neg (by decide : ¬ (116 : Int32) = 109), if_neg (by decide : ¬ (116 : Int32) = 110), if_neg (by decide : ¬ (116 : Int32) = 111), if_neg (by decide : ¬ (116 : Int32) = 112), if_neg (by decide : ¬ (116 : Int32) = 113), if_neg (by decide : ¬ (116 : Int32) = 114), if_neg (by decide : ¬ (116 : Int32) = 115), if_pos rfl]
def isLt (kd : Int32) : Prop := kd = 98 ∨ kd = 102 ∨ kd = 103 ∨ kd = 104 ∨ kd = 108 ∨ kd = 110 ∨ kd = 112 ∨ kd = 116
theorem SO {K : Nat} {w : WS} {z : Nat → Int32} (h : WR K w z) {kd : Int32} (hk : isLt kd) (a b c : Int32) : ∃ dv, Swk K w (vX6_carryOutOrder w kd a b c) (wX6_carryOutOrder w kd a b c) (zNo z kd a b c) dv (zDo z kd a b c) := by
  rcases hk with rfl | rfl | rfl | rfl | rfl | rfl | rfl | rfl
  · rw [cv_98, cw_98, no_98, do_98]
    exact ⟨_, S_book h a b c⟩
  · rw [cv_102, cw_102, no_102, do_102]
    exact ⟨_, S_fire h a⟩
  · rw [cv_103, cw_103, no_103, do_103]
    exact ⟨_, S_glaze h a b⟩
  · rw [cv_104, cw_104, no_104, do_104]
    exact ⟨_, S_home h a⟩
  · rw [cv_108, cw_108, no_108, do_108]
    exact ⟨_, S_load h a⟩
  · rw [cv_110, cw_110, no_110, do_110]
    exact ⟨_, S_pass h a⟩
  · rw [cv_112, cw_112, no_112, do_112]
    exact ⟨_, S_pupil h⟩
  · rw [cv_116, cw_116, no_116, do_116]
    exact ⟨_, S_throw h a b⟩
theorem cw_o (w : WS) (kd a b c : Int32) (h : ¬ isLt kd) : wX6_carryOutOrder w kd a b c = w := by
  have h98 : ¬ kd = 98 := fun x => h (Or.inl x)
  have h102 : ¬ kd = 102 := fun x => h (Or.inr (Or.inl x))
  have h103 : ¬ kd = 103 := fun x => h (Or.inr (Or.inr (Or.inl x)))
  have h104 : ¬ kd = 104 := fun x => h (Or.inr (Or.inr (Or.inr (Or.inl x))))
  have h108 : ¬ kd = 108 := fun x => h (Or.inr (Or.inr (Or.inr (Or.inr (Or.inl x)))))
  have h110 : ¬ kd = 110 := fun x => h (Or.inr (Or.inr (Or.inr (Or.inr (Or.inr (Or.inl x))))))
  have h112 : ¬ kd = 112 := fun x => h (Or.inr (Or.inr (Or.inr (Or.inr (Or.inr (Or.inr (Or.inl x)))))))
  have h116 : ¬ kd = 116 := fun x => h (Or.inr (Or.inr (Or.inr (Or.inr (Or.inr (Or.inr (Or.inr (x))))))))
  unfold wX6_carryOutOrder
  simp only [if_neg h98, if_neg h102, if_neg h103, if_neg h104, if_neg h108, if_neg h110, if_neg h112, if_neg h116, ite_self]
theorem no_o (z : Nat → Int32) (kd a b c : Int32) (h : ¬ isLt kd) : zNo z kd a b c = vX7_noTakeHome (mz z) a ∧ zDo z kd a b c = (wX7_doTakeHome (mz z) a (cl a)).1 0 := by
  have h98 : ¬ kd = 98 := fun x => h (Or.inl x)
  have h102 : ¬ kd = 102 := fun x => h (Or.inr (Or.inl x))
  have h103 : ¬ kd = 103 := fun x => h (Or.inr (Or.inr (Or.inl x)))
  have h104 : ¬ kd = 104 := fun x => h (Or.inr (Or.inr (Or.inr (Or.inl x))))
  have h108 : ¬ kd = 108 := fun x => h (Or.inr (Or.inr (Or.inr (Or.inr (Or.inl x)))))
  have h110 : ¬ kd = 110 := fun x => h (Or.inr (Or.inr (Or.inr (Or.inr (Or.inr (Or.inl x))))))
  have h112 : ¬ kd = 112 := fun x => h (Or.inr (Or.inr (Or.inr (Or.inr (Or.inr (Or.inr (Or.inl x)))))))
  have h116 : ¬ kd = 116 := fun x => h (Or.inr (Or.inr (Or.inr (Or.inr (Or.inr (Or.inr (Or.inr (x))))))))
  unfold zNo zDo vX7_noOrder wX7_doOrder
  simp only [if_neg h98, if_neg h102, if_neg h103, if_neg h104, if_neg h108, if_neg h110, if_neg h112, if_neg h116, ite_self]
  exact ⟨trivial, trivial⟩
theorem I_w {w : WS} (h : ∃ K z, WR K w z) : wOK w := by
  obtain ⟨K, z, n, np, nt, hs, -⟩ := h
  have e := wN_n hs.2.1.1 hs.1.1
  unfold wOK
  rw [e]
  exact ⟨hs.2.1.1, hs.1.1⟩
theorem I_ws (w : WS) (kd a b c : Int32) (h : ∃ K z, WR K w z) : ∃ K z, WR K (wX6_carryOutOrder w kd a b c) z := by
  by_cases hk : isLt kd
  · obtain ⟨K, z, h⟩ := h
    obtain ⟨dv, S⟩ := SO h hk a b c
    rcases S with ⟨-, -, e⟩ | ⟨-, -, -, e⟩
    · rw [e]; exact ⟨K, z, h⟩
    · exact ⟨_, _, e⟩
  · rw [cw_o w kd a b c hk]; exact h
theorem I_z {z : Nat → Int32} (h : ∃ K w, WR K w z) : mOK (mz z) ∧ mQK (mz z) ∧ ∀ i, i < mN (mz z) → hPu (mz z) i := by
  obtain ⟨K, w, n, np, nt, hs, h1, h2, h3, h4, h5, h6, h7, h8, h9⟩ := h
  obtain ⟨⟨b1, b2, b3⟩, ⟨n1, n2⟩, ⟨p1, p2⟩, ⟨t1, t2⟩, x1, f1⟩ := id hs
  have e := mzN n2 b1
  refine ⟨?_, ?_, fun i hi => ?_⟩
  · unfold mOK
    rw [e]
    exact ⟨n2, b1⟩
  · have eq : mQ (mz z) = np := by
      show cl (z 6) = np
      rw [p2]; exact cl_n (by omega)
    unfold mQK
    rw [eq]
    exact ⟨p2, b2⟩
  · rw [e] at hi
    obtain ⟨-, pu, u1, u2⟩ := (h7 i hi).1
    show z (35 + 9 * i) = nI (cl (z (35 + 9 * i))) ∧ cl (z (35 + 9 * i)) < 10
    rw [u2, cl_n (by omega)]
    exact ⟨rfl, by omega⟩
theorem I_zs (z : Nat → Int32) (kd a b c : Int32) (h : ∃ K w, WR K w z) (h0 : zNo z kd a b c = 0) : ∃ K w, WR K w (zDo z kd a b c) := by
  obtain ⟨K, w, h⟩ := h
  have key : ∀ v w2 dv, Swk K w v w2 (zNo z kd a b c) dv (zDo z kd a b c) → ∃ K w, WR K w (zDo z kd a b c) := fun v w2 dv S => by
    rcases S with ⟨e, -⟩ | ⟨-, -, -, e⟩
    · rw [h0] at e; exact absurd e (by decide)
    · exact ⟨_, _, e⟩
  by_cases hk : isLt kd
  · obtain ⟨dv, S⟩ := SO h hk a b c
    exact key _ _ _ S
  · obtain ⟨e1, e2⟩ := no_o z kd a b c hk
    rw [e1, e2] at key
    rw [e2]
    exact key _ _ _ (S_home h a)
/-! texts -/
theorem ordr_l {g : Nat → Int32} {n p : Nat} (h : (ordr g n p).1 = true) : isLt (sg g n p) := by
  unfold ordr at h
  by_cases h1 : sg g n p = 112
  · exact Or.inr (Or.inr (Or.inr (Or.inr (Or.inr (Or.inr (Or.inl h1))))))
  · rw [if_neg h1] at h
    by_cases h2 : sg g n p = 98
    · exact Or.inl h2
    · rw [if_neg h2] at h
      by_cases h3 : sg g n p = 116
      · exact Or.inr (Or.inr (Or.inr (Or.inr (Or.inr (Or.inr (Or.inr h3))))))
      · rw [if_neg h3] at h
        by_cases h4 : sg g n p = 103
        · exact Or.inr (Or.inr (Or.inl h4))
        · rw [if_neg h4] at h
          by_cases h5 : sg g n p = 108 ∨ sg g n p = 102 ∨ sg g n p = 110 ∨ sg g n p = 104
          · rcases h5 with h5 | h5 | h5 | h5
            · exact Or.inr (Or.inr (Or.inr (Or.inr (Or.inl h5))))
            · exact Or.inr (Or.inl h5)
            · exact Or.inr (Or.inr (Or.inr (Or.inr (Or.inr (Or.inl h5)))))
            · exact Or.inr (Or.inr (Or.inr (Or.inl h5)))
          · rw [if_neg h5] at h; cases h
theorem isLt_0 {x : Int32} (h : isLt x) : ¬ x = 0 := by
  intro e
  subst e
  rcases h with h | h | h | h | h | h | h | h <;> exact absurd h (by decide)
theorem cO_out {g : Nat → Int32} {n : Nat} (k : Nat) (w : WS) : cO g n k w n = (0, w) := by
  cases k with
  | zero => rfl
  | succ k =>
    refine if_neg (fun h => ?_)
    exact isLt_0 (ordr_l h) (by unfold sg; rw [if_pos (Nat.le_refl _)])
theorem cO_n {g : Nat → Int32} {n : Nat} (hn : n ≤ 80) : ∀ (k K : Nat) (w : WS) (z : Nat → Int32) (p : Nat), p ≤ n → (∃ kk, flt g n kk p = -6) → WR K w z → (cO g n k w p).1 = (zO g n k z p).1 ∧ (cO g n k w p).1 ≤ k ∧ WR (K + 20 * k) (cO g n k w p).2 (zO g n k z p).2
  | 0, K, w, z, p, _, _, h => ⟨rfl, Nat.le_refl _, h⟩
  | k + 1, K, w, z, p, hp, hf, h => by
    obtain ⟨h1, h2⟩ := flt_go hn hp hf
    have hl := ordr_l h1
    have hpn : p < n := sg_ne rfl (isLt_0 hl)
    obtain ⟨dv, S⟩ := SO h hl (ordr g n p).2.2.1 (ordr g n p).2.2.2.1 (ordr g n p).2.2.2.2
    have e1 : cO g n (k + 1) w p = if (ordr g n p).1 = true then (if vX6_carryOutOrder w (sg g n p) (ordr g n p).2.2.1 (ordr g n p).2.2.2.1 (ordr g n p).2.2.2.2 < 0 then (0, wX6_carryOutOrder w (sg g n p) (ordr g n p).2.2.1 (ordr g n p).2.2.2.1 (ordr g n p).2.2.2.2) else ((cO g n k (wX6_carryOutOrder w (sg g n p) (ordr g n p).2.2.1 (ordr g n p).2.2.2.1 (ordr g n p).2.2.2.2) (if sg g n (ordr g n p).2.1 = 59 then (ordr g n p).2.1 + 1 else (ordr g n p).2.1)).1 + 1, (cO g n k (wX6_carryOutOrder w (sg g n p) (ordr g n p).2.2.1 (ordr g n p).2.2.2.1 (ordr g n p).2.2.2.2) (if sg g n (ordr g n p).2.1 = 59 then (ordr g n p).2.1 + 1 else (ordr g n p).2.1)).2)) else (0, w) := rfl
    have e2 : zO g n (k + 1) z p = if p < n then (if zNo z (sg g n p) (ordr g n p).2.2.1 (ordr g n p).2.2.2.1 (ordr g n p).2.2.2.2 = 0 then ((zO g n k (zDo z (sg g n p) (ordr g n p).2.2.1 (ordr g n p).2.2.2.1 (ordr g n p).2.2.2.2) ((ordr g n p).2.1 + 1)).1 + 1, (zO g n k (zDo z (sg g n p) (ordr g n p).2.2.1 (ordr g n p).2.2.2.1 (ordr g n p).2.2.2.2) ((ordr g n p).2.1 + 1)).2) else (0, z)) else (0, z) := rfl
    rw [e1, e2, if_pos h1, if_pos hpn]
    generalize vX6_carryOutOrder w (sg g n p) (ordr g n p).2.2.1 (ordr g n p).2.2.2.1 (ordr g n p).2.2.2.2 = v at *
    generalize wX6_carryOutOrder w (sg g n p) (ordr g n p).2.2.1 (ordr g n p).2.2.2.1 (ordr g n p).2.2.2.2 = w2 at *
    generalize zNo z (sg g n p) (ordr g n p).2.2.1 (ordr g n p).2.2.2.1 (ordr g n p).2.2.2.2 = no at *
    generalize zDo z (sg g n p) (ordr g n p).2.2.1 (ordr g n p).2.2.2.1 (ordr g n p).2.2.2.2 = z2 at *
    rcases S with ⟨s1, s2, s3⟩ | ⟨s1, s2, s3, s4⟩
    · have s5 : ¬ no = 0 := fun e => by rw [e] at s1; exact absurd s1 (by decide)
      rw [if_pos (show v < 0 by rw [s2]; exact s1), if_neg s5, s3]
      exact ⟨rfl, Nat.zero_le _, WR_K h (by omega)⟩
    · rw [if_neg (nn_lt s3), if_pos s1]
      rcases h2 with e | ⟨e, hf2⟩
      · have e3 : sg g n (ordr g n p).2.1 = 0 := by rw [e]; unfold sg; rw [if_pos (Nat.le_refl _)]
        rw [if_neg (show ¬ sg g n (ordr g n p).2.1 = 59 by rw [e3]; decide), e, cO_out, zO_out (by omega)]
        exact ⟨rfl, by show 0 + 1 ≤ k + 1; omega, WR_K s4 (by omega)⟩
      · have he : (ordr g n p).2.1 < n := sg_ne e (by decide)
        rw [if_pos e]
        obtain ⟨i1, i2, i3⟩ := cO_n hn k (K + 20) w2 z2 ((ordr g n p).2.1 + 1) (by omega) hf2 s4
        exact ⟨congrArg (· + 1) i1, Nat.succ_le_succ i2, WR_K i3 (by omega)⟩
theorem sg_c {g g2 : Nat → Int32} {n : Nat} (h : ∀ i, i < n → g2 i = g i) : sg g2 n = sg g n := funext fun p => by
  unfold sg
  by_cases e : n ≤ p
  · rw [if_pos e, if_pos e]
  · rw [if_neg e, if_neg e]; exact h p (by omega)
theorem ordr_c {g g2 : Nat → Int32} {n : Nat} (h : sg g2 n = sg g n) (p : Nat) : ordr g2 n p = ordr g n p := by
  unfold ordr numE numV
  rw [h]
theorem flt_c {g g2 : Nat → Int32} {n : Nat} (h : sg g2 n = sg g n) : ∀ k p, flt g2 n k p = flt g n k p
  | 0, _ => rfl
  | k + 1, p => by
    unfold flt
    rw [ordr_c h, h, flt_c h k]
theorem zO_c {g g2 : Nat → Int32} {n : Nat} (h : sg g2 n = sg g n) : ∀ k z p, zO g2 n k z p = zO g n k z p
  | 0, _, _ => rfl
  | k + 1, z, p => by
    unfold zO
    rw [ordr_c h, h, zO_c h k]
theorem Rel_n {K : Nat} {q : PS} {y : MS} (h : Rel K q y) : ∃ n : Nat, n ≤ 80 ∧ (pPad q).2 0 = nI n ∧ y.2 1 = nI n ∧ ∀ i, i < n → (pPad q).1 0 i = y.1 4 i := by
  obtain ⟨nx, kp, n, ⟨a1, a2, a3⟩, b, c, d, e, f1, f2, f3⟩ := h
  exact ⟨n, a3, f1, f2, f3⟩
theorem Rel_wipe {K : Nat} {q : PS} {y : MS} (h : Rel K q y) : Rel K (pwPad q (dSc (pPad q) 0 0)) (mSc y 1 0) := by
  obtain ⟨nx, kp, n, ⟨a1, a2, a3⟩, ⟨b1, b2, b3⟩, c, d, e, f1, f2, f3⟩ := h
  exact ⟨nx, kp, 0, ⟨a1, a2, Nat.zero_le _⟩, ⟨b1, b2, b3⟩, c, d, e, rfl, rfl, fun i hi => absurd hi (Nat.not_lt_zero _)⟩
theorem R_wipe {K : Nat} {q : PS} {y : MS} (h : Rel K q y) : vX6_wipe q = vX7_wipe y ∧ Rel K (wX6_wipe q) (wX7_wipe y) := by
  obtain ⟨n, -, f1, f2, -⟩ := Rel_n h
  exact ⟨f1.trans f2.symm, Rel_wipe h⟩
theorem rec_pad (q : PS) (pd : DS) (v : Int32) : wX1_record (pwPad q pd) v = pwPad (wX1_record q v) pd := by
  unfold wX1_record
  split <;> rfl
theorem rec_pp (q : PS) (v : Int32) : pPad (wX1_record q v) = pPad q := by
  unfold wX1_record
  split <;> rfl
theorem R_carryOut {K : Nat} {q : PS} {y : MS} (h : Rel K q y) {n : Nat} (hn : n ≤ 80) (h3 : ∀ i, i < n → (pPad q).1 0 i = y.1 4 i) : vCO q n = vMO y n ∧ Rel (K + 1600) (wCO q n) (wMO y n) := by
  have hs : sg (y.1 4) n = sg ((pPad q).1 0) n := sg_c (fun i hi => (h3 i hi).symm)
  unfold vCO wCO vMO wMO
  rw [flt_c hs, zO_c hs]
  by_cases e : flt ((pPad q).1 0) n 80 0 = -6
  · rw [if_pos e, if_pos e, if_pos e, if_pos e, vrec]
    obtain ⟨i1, i2, i3⟩ := cO_n hn 80 K q.1 (y.1 0) 0 (Nat.zero_le _) ⟨80, e⟩ (R_wr h)
    unfold coN coQ
    refine ⟨congrArg nI i1, ?_⟩
    have g := Rel_wipe (rec_step h (nI_pos' (n := (cO ((pPad q).1 0) n 80 q.1 0).1) (by omega)) i3 (by omega))
    rw [rec_pp] at g
    rw [rec_pad]
    exact g
  · rw [if_neg e, if_neg e, if_neg e, if_neg e]
    exact ⟨rfl, Rel_K h (by omega)⟩
theorem R_fault {q : PS} {y : MS} {n : Nat} (h3 : ∀ i, i < n → (pPad q).1 0 i = y.1 4 i) : flt ((pPad q).1 0) n 80 0 = flt (y.1 4) n 80 0 := (flt_c (sg_c h3) 80 0)
/-! put -/
theorem lU_N (x : Int64) {k : Nat} (hk : k < 8) : uN (lU x (8 * nI k)) = uN x / 2 ^ (8 * k) := by
  rw [show (8 : Int32) = nI 8 from rfl, pk_mul]
  exact uN_sk x (by omega)
theorem lU_0 (x : Int64) {k : Nat} (hk : k < 8) : lU x (8 * nI k) = 0 ↔ uN x / 2 ^ (8 * k) = 0 := by
  rw [← lU_N x hk]
  exact ⟨fun e => by rw [e]; rfl, fun e => uN_inj (e.trans rfl)⟩
theorem lU_m {x : Int64} {k m : Nat} (hm : m < 8) (hk : k ≤ m) (h : lU x (8 * nI k) = 0) : lU x (8 * nI m) = 0 := by
  rw [lU_0 x hm]
  have h := (lU_0 x (by omega)).mp h
  have : uN x / 2 ^ (8 * m) ≤ uN x / 2 ^ (8 * k) := Nat.div_le_div_left (Nat.pow_le_pow_right (by decide) (by omega)) (Nat.two_pow_pos _)
  rw [h] at this
  exact Nat.le_zero.mp this
theorem cIn_0 {x : Int64} {k : Nat} (h : lU x (8 * nI k) = 0) : cIn x (nI k) = 0 := by
  unfold cIn
  rw [h]
  decide
theorem zEd_t {x : Int64} {k : Nat} : zEd x k = true ↔ 0 < k ∧ lU x (8 * nI k) = 0 := by
  unfold zEd
  rw [Bool.and_eq_true, decide_eq_true_eq, decide_eq_true_eq, lg_cmp_eq]
theorem zBd_m {x : Int64} {k : Nat} (h : zBd x k = true) : ∀ m, zBd x (k + m) = true
  | 0 => h
  | m + 1 => by
    show (zBd x (k + m) || _) = true
    rw [zBd_m h m, Bool.true_or]
theorem zMn_m (x : Int64) (k : Nat) : ∀ m, zMn x k ≤ zMn x (k + m)
  | 0 => Nat.le_refl _
  | m + 1 => by
    have := zMn_m x k m
    show _ ≤ if zEd x (k + m) = true then zMn x (k + m) else zMn x (k + m) + 1
    split <;> omega
theorem zpre {x : Int64} : ∀ {i : Nat}, (∀ k, k < i → zEd x k = false ∧ isW (cIn x (nI k)) 33 126 = true) → zMn x i = i ∧ zBd x i = false
  | 0, _ => ⟨rfl, rfl⟩
  | i + 1, h => by
    obtain ⟨a, b⟩ := zpre (i := i) (fun k hk => h k (by omega))
    obtain ⟨c, d⟩ := h i (by omega)
    refine ⟨?_, ?_⟩
    · rw [zMn_f c, a]
    · show (zBd x i || (!zEd x i && !isW (cIn x (nI i)) 33 126)) = false
      rw [b, c, d]; rfl
theorem zend {x : Int64} {i : Nat} : ∀ m, (∀ j, i ≤ j → j < i + m → zEd x j = true) → zMn x (i + m) = zMn x i ∧ zBd x (i + m) = zBd x i
  | 0, _ => ⟨rfl, rfl⟩
  | m + 1, h => by
    obtain ⟨a, b⟩ := zend m (fun j h1 h2 => h j h1 (by omega))
    have c := h (i + m) (by omega) (by omega)
    refine ⟨(zMn_t c).trans a, ?_⟩
    show (zBd x (i + m) || (!zEd x (i + m) && _)) = _
    rw [b, c]
    cases zBd x i <;> rfl
theorem ch_n (x : Int64) : ∀ m i, i + m = 8 → (∀ k, k < i → zEd x k = false ∧ isW (cIn x (nI k)) 33 126 = true) → chN x i m = if zBd x 8 = true then 0 else zMn x 8
  | 0, i, hi, h => by
    have hi : i = 8 := by omega
    subst hi
    obtain ⟨a, b⟩ := zpre h
    rw [a, b, if_neg (by decide)]
    rfl
  | m + 1, i, hi, h => by
    obtain ⟨a, b⟩ := zpre h
    have bad : zEd x i = false → isW (cIn x (nI i)) 33 126 = false → zBd x 8 = true := fun c d => by
      have : zBd x (i + 1) = true := by
        show (zBd x i || (!zEd x i && !isW (cIn x (nI i)) 33 126)) = true
        rw [b, c, d]; rfl
      have := zBd_m this m
      rwa [show i + 1 + m = 8 by omega] at this
    have r0 : isW 0 33 126 = false := by decide
    show (if cIn x (nI i) = 0 then (if lg_cmp (lU x (8 * nI i)) 0 = 0 then i else 0) else if isW (cIn x (nI i)) 33 126 = true then chN x (i + 1) m else 0) = _
    by_cases c : cIn x (nI i) = 0
    · rw [if_pos c]
      by_cases d : lU x (8 * nI i) = 0
      · rw [if_pos ((lg_cmp_eq _ _).mpr d)]
        by_cases i0 : i = 0
        · subst i0
          have e : zEd x 0 = false := rfl
          rw [if_pos (bad e (by rw [c]; exact r0))]
        · obtain ⟨e1, e2⟩ := zend (x := x) (i := i) (m + 1) (fun j h1 h2 => zEd_t.mpr ⟨by omega, lU_m (by omega) h1 d⟩)
          rw [hi] at e1 e2
          rw [e1, e2, a, b, if_neg (by decide)]
      · rw [if_neg (fun z => d ((lg_cmp_eq _ _).mp z))]
        have e : zEd x i = false := by
          cases f : zEd x i with
          | false => rfl
          | true => exact absurd (zEd_t.mp f).2 d
        rw [if_pos (bad e (by rw [c]; exact r0))]
    · rw [if_neg c]
      have e : zEd x i = false := by
        cases f : zEd x i with
        | false => rfl
        | true => exact absurd (cIn_0 (zEd_t.mp f).2) c
      cases r : isW (cIn x (nI i)) 33 126 with
      | true =>
        rw [if_pos rfl]
        exact ch_n x m (i + 1) (by omega) (fun k hk => by
          by_cases ek : k = i
          · subst ek; exact ⟨e, r⟩
          · exact h k (by omega))
      | false => rw [if_neg (by decide), if_pos (bad e r)]
theorem chM_n (x : Int64) : chM x = if zBd x 8 = true then 0 else zMn x 8 := ch_n x 8 0 rfl (fun k hk => absurd hk (Nat.not_lt_zero _))
theorem zMn_1 (x : Int64) : 1 ≤ zMn x 8 := zMn_m x 1 7
theorem R_put {K : Nat} {q : PS} {y : MS} (h : Rel K q y) {n : Nat} (hn : n ≤ 80) (h1 : (pPad q).2 0 = nI n) (x : Int64) : apV x n = vMP x n ∧ Rel K (pwPad q (apW (pPad q) x n)) (wMP y x n) := by
  unfold apV apW vMP wMP
  rw [chM_n]
  cases hb : zBd x 8 with
  | true =>
    simp only [if_tt, eq_self, if_true]
    exact ⟨trivial, h⟩
  | false =>
    have m1 := zMn_1 x
    have m8 := zMn_le x 8
    rw [if_neg (show ¬ (false = true) by decide), if_neg (show ¬ (false = true) by decide), if_neg (show ¬ (false = true) by decide), if_neg (show ¬ zMn x 8 = 0 by omega), if_neg (show ¬ zMn x 8 = 0 by omega)]
    by_cases e : 80 < n + zMn x 8
    · rw [if_pos e, if_pos e, if_pos e]
      exact ⟨rfl, h⟩
    · rw [if_neg e, if_neg e, if_neg e]
      refine ⟨rfl, ?_⟩
      obtain ⟨nx, kp, n2, ⟨a1, a2, a3⟩, ⟨b1, b2, b3⟩, c, d, f, f1, f2, f3⟩ := h
      have en : n2 = n := (nI_eq (by omega) (by omega)).mp (f1.symm.trans h1)
      subst en
      refine ⟨nx, kp, n2 + zMn x 8, ⟨a1, a2, by omega⟩, ⟨b1, b2, b3⟩, c, d, f, rfl, rfl, fun i hi => ?_⟩
      show (if n2 ≤ i ∧ i < n2 + zMn x 8 then cIn x (nI (zMn x 8 - 1 - (i - n2))) else (pPad q).1 0 i) = (if n2 + zMn x 8 - zMn x 8 ≤ i ∧ i < n2 + zMn x 8 then cIn x (nI (n2 + zMn x 8 - 1 - i)) else y.1 4 i)
      by_cases g : n2 ≤ i
      · rw [if_pos ⟨g, hi⟩, if_pos ⟨by omega, hi⟩, show zMn x 8 - 1 - (i - n2) = n2 + zMn x 8 - 1 - i by omega]
      · rw [if_neg (by omega), if_neg (by omega)]
        exact f3 i (by omega)
/-! what the face asks and does -/
theorem R_count {K : Nat} {q : PS} {y : MS} (h : Rel K q y) (what : Int32) : vX6_count q what = vX7_count y what := by
  have hq := fun h1 h2 => Q_figure (R_wr h) what h1 h2
  obtain ⟨nx, kp, n, ⟨a1, a2, a3⟩, ⟨b1, b2, b3⟩, c, d, e, f1, f2, f3⟩ := h
  unfold vX6_count
  by_cases e19 : what = 19
  · subst e19
    rw [if_pos rfl, f1]
    unfold vX7_count
    rw [if_neg (by decide), if_neg (by decide)]
    rw [if_neg (by decide : ¬ (19 : Int32) = 0), if_neg (by decide : ¬ (19 : Int32) = 1), if_neg (by decide : ¬ (19 : Int32) = 2), if_neg (by decide : ¬ (19 : Int32) = 3), if_neg (by decide : ¬ (19 : Int32) = 4), if_neg (by decide : ¬ (19 : Int32) = 5), if_neg (by decide : ¬ (19 : Int32) = 6), if_neg (by decide : ¬ (19 : Int32) = 7), if_neg (by decide : ¬ (19 : Int32) = 8), if_neg (by decide : ¬ (19 : Int32) = 9), if_neg (by decide : ¬ (19 : Int32) = 10), if_neg (by decide : ¬ (19 : Int32) = 11), if_neg (by decide : ¬ (19 : Int32) = 12), if_neg (by decide : ¬ (19 : Int32) = 13), if_neg (by decide : ¬ (19 : Int32) = 14), if_neg (by decide : ¬ (19 : Int32) = 15), if_neg (by decide : ¬ (19 : Int32) = 16), if_neg (by decide : ¬ (19 : Int32) = 17), if_neg (by decide : ¬ (19 : Int32) = 18), if_pos rfl]
    exact f2.symm
  · rw [if_neg e19]
    by_cases e20 : what = 20
    · subst e20
      rw [if_pos rfl]
      unfold vX7_count
      rw [if_neg (by decide), if_neg (by decide)]
      rw [if_neg (by decide : ¬ (20 : Int32) = 0), if_neg (by decide : ¬ (20 : Int32) = 1), if_neg (by decide : ¬ (20 : Int32) = 2), if_neg (by decide : ¬ (20 : Int32) = 3), if_neg (by decide : ¬ (20 : Int32) = 4), if_neg (by decide : ¬ (20 : Int32) = 5), if_neg (by decide : ¬ (20 : Int32) = 6), if_neg (by decide : ¬ (20 : Int32) = 7), if_neg (by decide : ¬ (20 : Int32) = 8), if_neg (by decide : ¬ (20 : Int32) = 9), if_neg (by decide : ¬ (20 : Int32) = 10), if_neg (by decide : ¬ (20 : Int32) = 11), if_neg (by decide : ¬ (20 : Int32) = 12), if_neg (by decide : ¬ (20 : Int32) = 13), if_neg (by decide : ¬ (20 : Int32) = 14), if_neg (by decide : ¬ (20 : Int32) = 15), if_neg (by decide : ¬ (20 : Int32) = 16), if_neg (by decide : ¬ (20 : Int32) = 17), if_neg (by decide : ¬ (20 : Int32) = 18), if_neg (by decide : ¬ (20 : Int32) = 19), if_pos rfl]
      exact b2.trans b3.symm
    · rw [if_neg e20, hq e19 e20]
      unfold vX7_count
      simp only [if_neg e19, if_neg e20]
      rfl
