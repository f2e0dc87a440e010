theorem kdN_X6_count : yX6_count.cls ≠ "java/lang/invoke/MethodHandle" ∧ yX6_count.cls ≠ "java/lang/invoke/VarHandle" ∧ (parseMethodDescriptor yX6_count.desc).map (fun d => d.parameters.length) = some 1 := by decide +kernel
theorem kdV_X6_count : yX6_count.cls = RX6 ∧ yX6_count.cls ≠ "java/lang/invoke/MethodHandle" ∧ yX6_count.cls ≠ "java/lang/invoke/VarHandle" ∧ (parseMethodDescriptor yX6_count.desc).map (fun d => d.parameters.length) = some 1 := ⟨rfl, kdN_X6_count⟩
def vX6_count (q0 : PS) (what : Int32) : Int32 := (if what = 19 then ((pPad q0).2 0) else (if what = 20 then (vX1_kept q0 ) else (vX5_figure q0.1 what)))
theorem in_X6_count_6 : ∀ w ∈ u_ws RX6 TX6 4, w ∈ wsX6_count := by decide +kernel
theorem fl_X6_count_30 : Cond.fieldLink RX6 30 (TX6 3).1 (TX6 3).2.1 (TX6 3).2.2.1 ∈ wsX6_count := by decide +kernel
theorem fl_X6_count_19 : Cond.fieldLink RX6 19 (TX6 1).1 (TX6 1).2.1 (TX6 1).2.2.1 ∈ wsX6_count := by decide +kernel
theorem fl_X6_count_12 : Cond.fieldLink RX6 12 (TX6 0).1 (TX6 0).2.1 (TX6 0).2.2.1 ∈ wsX6_count := by decide +kernel
abbrev rmX6_count : Room := { frames := 6, cells := 0, slots := 0, locals := 131 }
set_option maxHeartbeats 4000000 in
set_option maxRecDepth 100000 in
theorem k_X6_count (l : Launch) {k : gK} {L : List Nat} {f : Nat → va_E} {A : Nat → Nat} {q0 : PS} (hP : isPN k L f A q0) (hN : wOK q0.1) (what : Int32) : kR l k L f yX6_count wsX6_count rmX6_count [.ref (A 0), .int what] (.int (vX6_count q0 what)) := by
  refine kR_of (cc := cX6_count) (maxL := 2) (ret := (some .int)) (by decide) rfl (Nat.le_of_ble_eq_true rfl) ?_
  intro p e s m args below meth c C hr
  refine gx_lv [(0, _), (1, _)] [0, 1] rfl ?_
  refine gx_iload_n (q := 1) C dX6_count_0 rfl ?_
  by_cases l1_19 : what = 19
  · skip
    refine gx_lookup (off := 27) (tgt := 28) C dX6_count_1 (by decide) (by rw [l1_19]; decide) (by decide) ?_
    refine gx_aload_n (q := 0) C dX6_count_28 rfl ?_
    refine gx_get C (i := 3) (isPN_in hP 0 (by decide)) (isPN_0 hP) rfl in_X6_count_6 (by decide) fl_X6_count_30 rfl dX6_count_29 ?_
    refine gx_callR C (k_X2_length l (isPN_pad hP)) (isPN_in hP 4 (by decide)) (isPN_pad0 hP) rfl (cwV 0 C.2.2.2.2.1 gX6_count_X2_length rfl rfl rfl kdV_X2_length ⟨Nat.le_of_ble_eq_true rfl, Nat.le_of_ble_eq_true rfl⟩) rfl rfl (Nat.le_of_ble_eq_true rfl) ⟨Nat.le_of_ble_eq_true rfl, Nat.le_of_ble_eq_true rfl⟩ dX6_count_32 ?_
    exact gx_iretR C rfl hr dX6_count_35 (congrArg Value.int ((if_pos l1_19).trans (rfl)).symm)
  by_cases l1_20 : what = 20
  · skip
    refine gx_lookup (off := 35) (tgt := 36) C dX6_count_1 (by decide) (by rw [l1_20]; decide) (by decide) ?_
    refine gx_aload_n (q := 0) C dX6_count_36 rfl ?_
    refine gx_get C (i := 1) (isPN_in hP 0 (by decide)) (isPN_0 hP) rfl in_X6_count_6 (by decide) fl_X6_count_19 rfl dX6_count_37 ?_
    refine gx_callR C (k_X1_kept l hP) (isPN_in hP 1 (by decide)) (isPN_1 hP) rfl (cwV 0 C.2.2.2.2.1 gX6_count_X1_kept rfl rfl rfl kdV_X1_kept ⟨Nat.le_of_ble_eq_true rfl, Nat.le_of_ble_eq_true rfl⟩) rfl rfl (Nat.le_of_ble_eq_true rfl) ⟨Nat.le_of_ble_eq_true rfl, Nat.le_of_ble_eq_true rfl⟩ dX6_count_40 ?_
    exact gx_iretR C rfl hr dX6_count_43 (congrArg Value.int ((if_neg l1_19).trans ((if_pos l1_20).trans (rfl))).symm)
  refine gx_lookup (off := 43) (tgt := 44) C dX6_count_1 (by decide) (by have z19 : ¬ 19 = (what).toInt := fun z => l1_19 (gsw_eq z.symm (by decide)); have z20 : ¬ 20 = (what).toInt := fun z => l1_20 (gsw_eq z.symm (by decide)); simp [Op.lookupswitch.offset, z19, z20]) (by decide) ?_
  refine gx_aload_n (q := 0) C dX6_count_44 rfl ?_
  refine gx_get C (i := 0) (isPN_in hP 0 (by decide)) (isPN_0 hP) rfl in_X6_count_6 (by decide) fl_X6_count_12 rfl dX6_count_45 ?_
  refine gx_iload_n (q := 1) C dX6_count_48 rfl ?_
  refine gx_callR C (k_X5_figure l (isPN_now hP) hN _) (isPN_in hP 6 (by decide)) (isPN_now0 hP) rfl (cwV 1 C.2.2.2.2.1 gX6_count_X5_figure rfl rfl rfl kdV_X5_figure ⟨Nat.le_of_ble_eq_true rfl, Nat.le_of_ble_eq_true rfl⟩) rfl rfl (Nat.le_of_ble_eq_true rfl) ⟨Nat.le_of_ble_eq_true rfl, Nat.le_of_ble_eq_true rfl⟩ dX6_count_49 ?_
  exact gx_iretR C rfl hr dX6_count_52 (congrArg Value.int ((if_neg l1_19).trans ((if_neg l1_20).trans (rfl))).symm)
theorem kdN_X6_put : yX6_put.cls ≠ "java/lang/invoke/MethodHandle" ∧ yX6_put.cls ≠ "java/lang/invoke/VarHandle" ∧ (parseMethodDescriptor yX6_put.desc).map (fun d => d.parameters.length) = some 1 := by decide +kernel
theorem kdV_X6_put : yX6_put.cls = RX6 ∧ yX6_put.cls ≠ "java/lang/invoke/MethodHandle" ∧ yX6_put.cls ≠ "java/lang/invoke/VarHandle" ∧ (parseMethodDescriptor yX6_put.desc).map (fun d => d.parameters.length) = some 1 := ⟨rfl, kdN_X6_put⟩
theorem in_X6_put_6 : ∀ w ∈ u_ws RX6 TX6 4, w ∈ wsX6_put := by decide +kernel
theorem fl_X6_put_30 : Cond.fieldLink RX6 30 (TX6 3).1 (TX6 3).2.1 (TX6 3).2.2.1 ∈ wsX6_put := by decide +kernel
abbrev rmX6_put : Room := { frames := 3, cells := 0, slots := 0, locals := 69 }
set_option maxHeartbeats 4000000 in
set_option maxRecDepth 100000 in
theorem k_X6_put (l : Launch) {k : gK} {L : List Nat} {f : Nat → va_E} (hL : L.Nodup) {A : Nat → Nat} {q0 : PS} (hP : isPN k L f A q0) {n : Nat} (hn : (pPad q0).2 0 = nI n) (hn2 : n ≤ 80) (x : Int64) : kM l k L f yX6_put wsX6_put rmX6_put [.ref (A 0), .long x] (pP k L A (some (.int (apV x n))) (pwPad q0 (apW (pPad q0) x n))) := by
  refine kM_of (cc := cX6_put) (maxL := 3) (ret := (some .int)) (by decide) rfl (Nat.le_of_ble_eq_true rfl) ?_
  intro p e s m args below meth c C hr
  have hD : gD (fun q => q ∈ L) L := ⟨hL, fun _ h => h⟩
  refine gx_lv [(0, _), (1, _)] [0, 1] rfl ?_
  refine gx_aload_n (q := 0) C dX6_put_0 rfl ?_
  refine gx_get C (i := 3) (isPN_in hP 0 (by decide)) (isPN_0 hP) rfl in_X6_put_6 (by decide) fl_X6_put_30 rfl dX6_put_1 ?_
  refine gx_lload_n (q := 1) C dX6_put_4 rfl ?_
  refine gx_callTi C hD hP (k_X2_append l hL (isPN_pad hP) hn hn2 _) (isPN_in hP 4 (by decide)) (isPN_pad0 hP) rfl (cwV 1 C.2.2.2.2.1 gX6_put_X2_append rfl rfl rfl kdV_X2_append ⟨Nat.le_of_ble_eq_true rfl, Nat.le_of_ble_eq_true rfl⟩) rfl rfl (Nat.le_of_ble_eq_true rfl) ⟨Nat.le_of_ble_eq_true rfl, Nat.le_of_ble_eq_true rfl⟩ dX6_put_5 (fun f_1 hP_1 => ?_)
  exact gx_iretP C hr hP_1 dX6_put_8 (by rfl) (by rfl)
theorem kdN_X6_wipe : yX6_wipe.cls ≠ "java/lang/invoke/MethodHandle" ∧ yX6_wipe.cls ≠ "java/lang/invoke/VarHandle" ∧ (parseMethodDescriptor yX6_wipe.desc).map (fun d => d.parameters.length) = some 0 := by decide +kernel
theorem kdV_X6_wipe : yX6_wipe.cls = RX6 ∧ yX6_wipe.cls ≠ "java/lang/invoke/MethodHandle" ∧ yX6_wipe.cls ≠ "java/lang/invoke/VarHandle" ∧ (parseMethodDescriptor yX6_wipe.desc).map (fun d => d.parameters.length) = some 0 := ⟨rfl, kdN_X6_wipe⟩
def vX6_wipe (q0 : PS)  : Int32 := (vX2_clear (pPad q0) )
def wX6_wipe (q0 : PS)  : PS := (pwPad q0 (wX2_clear (pPad q0) ))
theorem in_X6_wipe_6 : ∀ w ∈ u_ws RX6 TX6 4, w ∈ wsX6_wipe := by decide +kernel
theorem fl_X6_wipe_30 : Cond.fieldLink RX6 30 (TX6 3).1 (TX6 3).2.1 (TX6 3).2.2.1 ∈ wsX6_wipe := by decide +kernel
abbrev rmX6_wipe : Room := { frames := 1, cells := 0, slots := 0, locals := 21 }
set_option maxHeartbeats 4000000 in
set_option maxRecDepth 100000 in
theorem k_X6_wipe (l : Launch) {k : gK} {L : List Nat} {f : Nat → va_E} (hL : L.Nodup) {A : Nat → Nat} {q0 : PS} (hP : isPN k L f A q0)  : kM l k L f yX6_wipe wsX6_wipe rmX6_wipe [.ref (A 0)] (pP k L A (some (.int (vX6_wipe q0 ))) (wX6_wipe q0 )) := by
  refine kM_of (cc := cX6_wipe) (maxL := 1) (ret := (some .int)) (by decide) rfl (Nat.le_of_ble_eq_true rfl) ?_
  intro p e s m args below meth c C hr
  have hD : gD (fun q => q ∈ L) L := ⟨hL, fun _ h => h⟩
  refine gx_lv [(0, _)] [0] rfl ?_
  refine gx_aload_n (q := 0) C dX6_wipe_0 rfl ?_
  refine gx_get C (i := 3) (isPN_in hP 0 (by decide)) (isPN_0 hP) rfl in_X6_wipe_6 (by decide) fl_X6_wipe_30 rfl dX6_wipe_1 ?_
  refine gx_callTi C hD hP (k_X2_clear l hL (isPN_pad hP)) (isPN_in hP 4 (by decide)) (isPN_pad0 hP) rfl (cwV 0 C.2.2.2.2.1 gX6_wipe_X2_clear rfl rfl rfl kdV_X2_clear ⟨Nat.le_of_ble_eq_true rfl, Nat.le_of_ble_eq_true rfl⟩) rfl rfl (Nat.le_of_ble_eq_true rfl) ⟨Nat.le_of_ble_eq_true rfl, Nat.le_of_ble_eq_true rfl⟩ dX6_wipe_4 (fun f_1 hP_1 => ?_)
  exact gx_iretP C hr hP_1 dX6_wipe_7 (rfl).symm (rfl).symm
theorem kdN_X6_carryOutOrder : yX6_carryOutOrder.cls ≠ "java/lang/invoke/MethodHandle" ∧ yX6_carryOutOrder.cls ≠ "java/lang/invoke/VarHandle" ∧ (parseMethodDescriptor yX6_carryOutOrder.desc).map (fun d => d.parameters.length) = some 0 := by decide +kernel
theorem kdV_X6_carryOutOrder : yX6_carryOutOrder.cls = RX6 ∧ yX6_carryOutOrder.cls ≠ "java/lang/invoke/MethodHandle" ∧ yX6_carryOutOrder.cls ≠ "java/lang/invoke/VarHandle" ∧ (parseMethodDescriptor yX6_carryOutOrder.desc).map (fun d => d.parameters.length) = some 0 := ⟨rfl, kdN_X6_carryOutOrder⟩
def vX6_carryOutOrder (w : WS)  (kd a0 b0 c0 : Int32) : Int32 := (if kd = 98 then (vX5_bookWheel w a0 b0 c0) else (if kd = 99 then (-3) else (if kd = 100 then (-3) else (if kd = 101 then (-3) else (if kd = 102 then (cFireV w a0) else (if kd = 103 then (vX5_glazePot w a0 b0) else (if kd = 104 then (vX5_handOver w a0) else (if kd = 105 then (-3) else (if kd = 106 then (-3) else (if kd = 107 then (-3) else (if kd = 108 then (vX5_moveIntoKiln w a0) else (if kd = 109 then (-3) else (if kd = 110 then (cPassV w a0) else (if kd = 111 then (-3) else (if kd = 112 then (vX5_admitPupil w ) else (if kd = 113 then (-3) else (if kd = 114 then (-3) else (if kd = 115 then (-3) else (if kd = 116 then (vX5_throwClay w a0 b0) else (-3))))))))))))))))))))
def wX6_carryOutOrder (w : WS)  (kd a0 b0 c0 : Int32) : WS := (if kd = 98 then (wX5_bookWheel w a0 b0 c0) else (if kd = 99 then w else (if kd = 100 then w else (if kd = 101 then w else (if kd = 102 then (cFireW w a0) else (if kd = 103 then (wX5_glazePot w a0 b0) else (if kd = 104 then (wX5_handOver w a0) else (if kd = 105 then w else (if kd = 106 then w else (if kd = 107 then w else (if kd = 108 then (wX5_moveIntoKiln w a0) else (if kd = 109 then w else (if kd = 110 then (cPassW w a0) else (if kd = 111 then w else (if kd = 112 then (wX5_admitPupil w ) else (if kd = 113 then w else (if kd = 114 then w else (if kd = 115 then w else (if kd = 116 then (wX5_throwClay w a0 b0) else w)))))))))))))))))))
theorem in_X6_carryOutOrder_6 : ∀ w ∈ u_ws RX6 TX6 4, w ∈ wsX6_carryOutOrder := by decide +kernel
theorem fl_X6_carryOutOrder_30 : Cond.fieldLink RX6 30 (TX6 3).1 (TX6 3).2.1 (TX6 3).2.2.1 ∈ wsX6_carryOutOrder := by decide +kernel
theorem fl_X6_carryOutOrder_12 : Cond.fieldLink RX6 12 (TX6 0).1 (TX6 0).2.1 (TX6 0).2.2.1 ∈ wsX6_carryOutOrder := by decide +kernel
abbrev rmX6_carryOutOrder : Room := { frames := 5, cells := 0, slots := 0, locals := 115 }
set_option maxHeartbeats 4000000 in
set_option maxRecDepth 100000 in
theorem k_X6_carryOutOrder (l : Launch) {k : gK} {L : List Nat} {f : Nat → va_E} (hL : L.Nodup) {A : Nat → Nat} {q0 : PS} (hP : isPN k L f A q0) (hN : wOK q0.1)  {kd a0 b0 c0 : Int32} (h2 : (pPad q0).2 2 = kd) (h3 : (pPad q0).2 3 = a0) (h4 : (pPad q0).2 4 = b0) (h5 : (pPad q0).2 5 = c0) : kM l k L f yX6_carryOutOrder wsX6_carryOutOrder rmX6_carryOutOrder [.ref (A 0)] (pP k L A (some (.int (vX6_carryOutOrder q0.1 kd a0 b0 c0))) (pwNow q0 (wX6_carryOutOrder q0.1 kd a0 b0 c0))) := by
  refine kM_of (cc := cX6_carryOutOrder) (maxL := 1) (ret := (some .int)) (by decide) rfl (Nat.le_of_ble_eq_true rfl) ?_
  intro p e s m args below meth c C hr
  have hD : gD (fun q => q ∈ L) L := ⟨hL, fun _ h => h⟩
  refine gx_lv [(0, _)] [0] rfl ?_
  refine gx_aload_n (q := 0) C dX6_carryOutOrder_0 rfl ?_
  refine gx_get C (i := 3) (isPN_in hP 0 (by decide)) (isPN_0 hP) rfl in_X6_carryOutOrder_6 (by decide) fl_X6_carryOutOrder_30 rfl dX6_carryOutOrder_1 ?_
  refine gx_callR C (k_X2_kind l (isPN_pad hP)) (isPN_in hP 4 (by decide)) (isPN_pad0 hP) rfl (cwV 0 C.2.2.2.2.1 gX6_carryOutOrder_X2_kind rfl rfl rfl kdV_X2_kind ⟨Nat.le_of_ble_eq_true rfl, Nat.le_of_ble_eq_true rfl⟩) rfl rfl (Nat.le_of_ble_eq_true rfl) ⟨Nat.le_of_ble_eq_true rfl, Nat.le_of_ble_eq_true rfl⟩ dX6_carryOutOrder_4 ?_
  refine gx_top kd h2 ?_
  refine gsw_split 98 116 kd ?_ ?_
  · intro sw_7
    refine gx_tableOut (tgt := 237) C dX6_carryOutOrder_7 sw_7 (by decide) ?_
    have n7_98 : ¬ kd = 98 := gsw_ne sw_7 (by decide)
    have n7_99 : ¬ kd = 99 := gsw_ne sw_7 (by decide)
    have n7_100 : ¬ kd = 100 := gsw_ne sw_7 (by decide)
    have n7_101 : ¬ kd = 101 := gsw_ne sw_7 (by decide)
    have n7_102 : ¬ kd = 102 := gsw_ne sw_7 (by decide)
    have n7_103 : ¬ kd = 103 := gsw_ne sw_7 (by decide)
    have n7_104 : ¬ kd = 104 := gsw_ne sw_7 (by decide)
    have n7_105 : ¬ kd = 105 := gsw_ne sw_7 (by decide)
    have n7_106 : ¬ kd = 106 := gsw_ne sw_7 (by decide)
    have n7_107 : ¬ kd = 107 := gsw_ne sw_7 (by decide)
    have n7_108 : ¬ kd = 108 := gsw_ne sw_7 (by decide)
    have n7_109 : ¬ kd = 109 := gsw_ne sw_7 (by decide)
    have n7_110 : ¬ kd = 110 := gsw_ne sw_7 (by decide)
    have n7_111 : ¬ kd = 111 := gsw_ne sw_7 (by decide)
    have n7_112 : ¬ kd = 112 := gsw_ne sw_7 (by decide)
    have n7_113 : ¬ kd = 113 := gsw_ne sw_7 (by decide)
    have n7_114 : ¬ kd = 114 := gsw_ne sw_7 (by decide)
    have n7_115 : ¬ kd = 115 := gsw_ne sw_7 (by decide)
    have n7_116 : ¬ kd = 116 := gsw_ne sw_7 (by decide)
    refine gx_bipush (v := (-3)) C dX6_carryOutOrder_237 (by decide) ?_
    exact gx_iretP C hr hP dX6_carryOutOrder_239 ((if_neg n7_98).trans ((if_neg n7_99).trans ((if_neg n7_100).trans ((if_neg n7_101).trans ((if_neg n7_102).trans ((if_neg n7_103).trans ((if_neg n7_104).trans ((if_neg n7_105).trans ((if_neg n7_106).trans ((if_neg n7_107).trans ((if_neg n7_108).trans ((if_neg n7_109).trans ((if_neg n7_110).trans ((if_neg n7_111).trans ((if_neg n7_112).trans ((if_neg n7_113).trans ((if_neg n7_114).trans ((if_neg n7_115).trans ((if_neg n7_116).trans (rfl)))))))))))))))))))).symm (congrArg (pwNow q0) ((if_neg n7_98).trans ((if_neg n7_99).trans ((if_neg n7_100).trans ((if_neg n7_101).trans ((if_neg n7_102).trans ((if_neg n7_103).trans ((if_neg n7_104).trans ((if_neg n7_105).trans ((if_neg n7_106).trans ((if_neg n7_107).trans ((if_neg n7_108).trans ((if_neg n7_109).trans ((if_neg n7_110).trans ((if_neg n7_111).trans ((if_neg n7_112).trans ((if_neg n7_113).trans ((if_neg n7_114).trans ((if_neg n7_115).trans ((if_neg n7_116).trans (rfl))))))))))))))))))))).symm
  · intro j hj1 hj2 sw_7
    obtain rfl | rfl | rfl | rfl | rfl | rfl | rfl | rfl | rfl | rfl | rfl | rfl | rfl | rfl | rfl | rfl | rfl | rfl | rfl : j = 98 ∨ j = 99 ∨ j = 100 ∨ j = 101 ∨ j = 102 ∨ j = 103 ∨ j = 104 ∨ j = 105 ∨ j = 106 ∨ j = 107 ∨ j = 108 ∨ j = 109 ∨ j = 110 ∨ j = 111 ∨ j = 112 ∨ j = 113 ∨ j = 114 ∨ j = 115 ∨ j = 116 := by omega
    · skip
      refine gx_tableIn (off := 97) (tgt := 104) C dX6_carryOutOrder_7 (by rw [sw_7]; decide) (by rw [sw_7]; decide) (by rw [sw_7]; rfl) (by decide) ?_
      have e7_98 : kd = 98 := gsw_eq sw_7 (by decide)
      refine gx_aload_n (q := 0) C dX6_carryOutOrder_104 rfl ?_
      refine gx_get C (i := 0) (isPN_in hP 0 (by decide)) (isPN_0 hP) rfl in_X6_carryOutOrder_6 (by decide) fl_X6_carryOutOrder_12 rfl dX6_carryOutOrder_105 ?_
      refine gx_aload_n (q := 0) C dX6_carryOutOrder_108 rfl ?_
      refine gx_get C (i := 3) (isPN_in hP 0 (by decide)) (isPN_0 hP) rfl in_X6_carryOutOrder_6 (by decide) fl_X6_carryOutOrder_30 rfl dX6_carryOutOrder_109 ?_
      refine gx_callR C (k_X2_first l (isPN_pad hP)) (isPN_in hP 4 (by decide)) (isPN_pad0 hP) rfl (cwV 0 C.2.2.2.2.1 gX6_carryOutOrder_X2_first rfl rfl rfl kdV_X2_first ⟨Nat.le_of_ble_eq_true rfl, Nat.le_of_ble_eq_true rfl⟩) rfl rfl (Nat.le_of_ble_eq_true rfl) ⟨Nat.le_of_ble_eq_true rfl, Nat.le_of_ble_eq_true rfl⟩ dX6_carryOutOrder_112 ?_
      refine gx_top a0 h3 ?_
      refine gx_aload_n (q := 0) C dX6_carryOutOrder_115 rfl ?_
      refine gx_get C (i := 3) (isPN_in hP 0 (by decide)) (isPN_0 hP) rfl in_X6_carryOutOrder_6 (by decide) fl_X6_carryOutOrder_30 rfl dX6_carryOutOrder_116 ?_
      refine gx_callR C (k_X2_second l (isPN_pad hP)) (isPN_in hP 4 (by decide)) (isPN_pad0 hP) rfl (cwV 0 C.2.2.2.2.1 gX6_carryOutOrder_X2_second rfl rfl rfl kdV_X2_second ⟨Nat.le_of_ble_eq_true rfl, Nat.le_of_ble_eq_true rfl⟩) rfl rfl (Nat.le_of_ble_eq_true rfl) ⟨Nat.le_of_ble_eq_true rfl, Nat.le_of_ble_eq_true rfl⟩ dX6_carryOutOrder_119 ?_
      refine gx_top b0 h4 ?_
      refine gx_aload_n (q := 0) C dX6_carryOutOrder_122 rfl ?_
      refine gx_get C (i := 3) (isPN_in hP 0 (by decide)) (isPN_0 hP) rfl in_X6_carryOutOrder_6 (by decide) fl_X6_carryOutOrder_30 rfl dX6_carryOutOrder_123 ?_
      refine gx_callR C (k_X2_third l (isPN_pad hP)) (isPN_in hP 4 (by decide)) (isPN_pad0 hP) rfl (cwV 0 C.2.2.2.2.1 gX6_carryOutOrder_X2_third rfl rfl rfl kdV_X2_third ⟨Nat.le_of_ble_eq_true rfl, Nat.le_of_ble_eq_true rfl⟩) rfl rfl (Nat.le_of_ble_eq_true rfl) ⟨Nat.le_of_ble_eq_true rfl, Nat.le_of_ble_eq_true rfl⟩ dX6_carryOutOrder_126 ?_
      refine gx_top c0 h5 ?_
      refine gx_callNi C hD hP (k_X5_bookWheel l hL (isPN_now hP) _ _ _) (isPN_in hP 6 (by decide)) (isPN_now0 hP) rfl (cwV 3 C.2.2.2.2.1 gX6_carryOutOrder_X5_bookWheel rfl rfl rfl kdV_X5_bookWheel ⟨Nat.le_of_ble_eq_true rfl, Nat.le_of_ble_eq_true rfl⟩) rfl rfl (Nat.le_of_ble_eq_true rfl) ⟨Nat.le_of_ble_eq_true rfl, Nat.le_of_ble_eq_true rfl⟩ dX6_carryOutOrder_129 (fun f_1 hP_1 => ?_)
      exact gx_iretP C hr hP_1 dX6_carryOutOrder_132 ((if_pos e7_98).trans (rfl)).symm (congrArg (pwNow q0) ((if_pos e7_98).trans (rfl))).symm
    · skip
      refine gx_tableIn (off := 230) (tgt := 237) C dX6_carryOutOrder_7 (by rw [sw_7]; decide) (by rw [sw_7]; decide) (by rw [sw_7]; rfl) (by decide) ?_
      have e7_99 : kd = 99 := gsw_eq sw_7 (by decide)
      have n7_98 : ¬ kd = 98 := gsw_n2 e7_99 (by decide)
      refine gx_bipush (v := (-3)) C dX6_carryOutOrder_237 (by decide) ?_
      exact gx_iretP C hr hP dX6_carryOutOrder_239 ((if_neg n7_98).trans ((if_pos e7_99).trans (rfl))).symm (congrArg (pwNow q0) ((if_neg n7_98).trans ((if_pos e7_99).trans (rfl)))).symm
    · skip
      refine gx_tableIn (off := 230) (tgt := 237) C dX6_carryOutOrder_7 (by rw [sw_7]; decide) (by rw [sw_7]; decide) (by rw [sw_7]; rfl) (by decide) ?_
      have e7_100 : kd = 100 := gsw_eq sw_7 (by decide)
      have n7_98 : ¬ kd = 98 := gsw_n2 e7_100 (by decide)
      have n7_99 : ¬ kd = 99 := gsw_n2 e7_100 (by decide)
      refine gx_bipush (v := (-3)) C dX6_carryOutOrder_237 (by decide) ?_
      exact gx_iretP C hr hP dX6_carryOutOrder_239 ((if_neg n7_98).trans ((if_neg n7_99).trans ((if_pos e7_100).trans (rfl)))).symm (congrArg (pwNow q0) ((if_neg n7_98).trans ((if_neg n7_99).trans ((if_pos e7_100).trans (rfl))))).symm
    · skip
      refine gx_tableIn (off := 230) (tgt := 237) C dX6_carryOutOrder_7 (by rw [sw_7]; decide) (by rw [sw_7]; decide) (by rw [sw_7]; rfl) (by decide) ?_
      have e7_101 : kd = 101 := gsw_eq sw_7 (by decide)
      have n7_98 : ¬ kd = 98 := gsw_n2 e7_101 (by decide)
      have n7_99 : ¬ kd = 99 := gsw_n2 e7_101 (by decide)
      have n7_100 : ¬ kd = 100 := gsw_n2 e7_101 (by decide)
      refine gx_bipush (v := (-3)) C dX6_carryOutOrder_237 (by decide) ?_
      exact gx_iretP C hr hP dX6_carryOutOrder_239 ((if_neg n7_98).trans ((if_neg n7_99).trans ((if_neg n7_100).trans ((if_pos e7_101).trans (rfl))))).symm (congrArg (pwNow q0) ((if_neg n7_98).trans ((if_neg n7_99).trans ((if_neg n7_100).trans ((if_pos e7_101).trans (rfl)))))).symm
    · skip
      refine gx_tableIn (off := 163) (tgt := 170) C dX6_carryOutOrder_7 (by rw [sw_7]; decide) (by rw [sw_7]; decide) (by rw [sw_7]; rfl) (by decide) ?_
      have e7_102 : kd = 102 := gsw_eq sw_7 (by decide)
      have n7_98 : ¬ kd = 98 := gsw_n2 e7_102 (by decide)
      have n7_99 : ¬ kd = 99 := gsw_n2 e7_102 (by decide)
      have n7_100 : ¬ kd = 100 := gsw_n2 e7_102 (by decide)
      have n7_101 : ¬ kd = 101 := gsw_n2 e7_102 (by decide)
      refine gx_aload_n (q := 0) C dX6_carryOutOrder_170 rfl ?_
      refine gx_get C (i := 0) (isPN_in hP 0 (by decide)) (isPN_0 hP) rfl in_X6_carryOutOrder_6 (by decide) fl_X6_carryOutOrder_12 rfl dX6_carryOutOrder_171 ?_
      refine gx_aload_n (q := 0) C dX6_carryOutOrder_174 rfl ?_
      refine gx_get C (i := 3) (isPN_in hP 0 (by decide)) (isPN_0 hP) rfl in_X6_carryOutOrder_6 (by decide) fl_X6_carryOutOrder_30 rfl dX6_carryOutOrder_175 ?_
      refine gx_callR C (k_X2_first l (isPN_pad hP)) (isPN_in hP 4 (by decide)) (isPN_pad0 hP) rfl (cwV 0 C.2.2.2.2.1 gX6_carryOutOrder_X2_first rfl rfl rfl kdV_X2_first ⟨Nat.le_of_ble_eq_true rfl, Nat.le_of_ble_eq_true rfl⟩) rfl rfl (Nat.le_of_ble_eq_true rfl) ⟨Nat.le_of_ble_eq_true rfl, Nat.le_of_ble_eq_true rfl⟩ dX6_carryOutOrder_178 ?_
      refine gx_top a0 h3 ?_
      refine gx_callNi C hD hP (k_X5_fireKiln l hL (isPN_now hP) hN _) (isPN_in hP 6 (by decide)) (isPN_now0 hP) rfl (cwV 1 C.2.2.2.2.1 gX6_carryOutOrder_X5_fireKiln rfl rfl rfl kdV_X5_fireKiln ⟨Nat.le_of_ble_eq_true rfl, Nat.le_of_ble_eq_true rfl⟩) rfl rfl (Nat.le_of_ble_eq_true rfl) ⟨Nat.le_of_ble_eq_true rfl, Nat.le_of_ble_eq_true rfl⟩ dX6_carryOutOrder_181 (fun f_2 hP_2 => ?_)
      exact gx_iretP C hr hP_2 dX6_carryOutOrder_184 ((if_neg n7_98).trans ((if_neg n7_99).trans ((if_neg n7_100).trans ((if_neg n7_101).trans ((if_pos e7_102).trans (rfl)))))).symm (congrArg (pwNow q0) ((if_neg n7_98).trans ((if_neg n7_99).trans ((if_neg n7_100).trans ((if_neg n7_101).trans ((if_pos e7_102).trans (rfl))))))).symm
    · skip
      refine gx_tableIn (off := 178) (tgt := 185) C dX6_carryOutOrder_7 (by rw [sw_7]; decide) (by rw [sw_7]; decide) (by rw [sw_7]; rfl) (by decide) ?_
      have e7_103 : kd = 103 := gsw_eq sw_7 (by decide)
      have n7_98 : ¬ kd = 98 := gsw_n2 e7_103 (by decide)
      have n7_99 : ¬ kd = 99 := gsw_n2 e7_103 (by decide)
      have n7_100 : ¬ kd = 100 := gsw_n2 e7_103 (by decide)
      have n7_101 : ¬ kd = 101 := gsw_n2 e7_103 (by decide)
      have n7_102 : ¬ kd = 102 := gsw_n2 e7_103 (by decide)
      refine gx_aload_n (q := 0) C dX6_carryOutOrder_185 rfl ?_
      refine gx_get C (i := 0) (isPN_in hP 0 (by decide)) (isPN_0 hP) rfl in_X6_carryOutOrder_6 (by decide) fl_X6_carryOutOrder_12 rfl dX6_carryOutOrder_186 ?_
      refine gx_aload_n (q := 0) C dX6_carryOutOrder_189 rfl ?_
      refine gx_get C (i := 3) (isPN_in hP 0 (by decide)) (isPN_0 hP) rfl in_X6_carryOutOrder_6 (by decide) fl_X6_carryOutOrder_30 rfl dX6_carryOutOrder_190 ?_
      refine gx_callR C (k_X2_first l (isPN_pad hP)) (isPN_in hP 4 (by decide)) (isPN_pad0 hP) rfl (cwV 0 C.2.2.2.2.1 gX6_carryOutOrder_X2_first rfl rfl rfl kdV_X2_first ⟨Nat.le_of_ble_eq_true rfl, Nat.le_of_ble_eq_true rfl⟩) rfl rfl (Nat.le_of_ble_eq_true rfl) ⟨Nat.le_of_ble_eq_true rfl, Nat.le_of_ble_eq_true rfl⟩ dX6_carryOutOrder_193 ?_
      refine gx_top a0 h3 ?_
      refine gx_aload_n (q := 0) C dX6_carryOutOrder_196 rfl ?_
      refine gx_get C (i := 3) (isPN_in hP 0 (by decide)) (isPN_0 hP) rfl in_X6_carryOutOrder_6 (by decide) fl_X6_carryOutOrder_30 rfl dX6_carryOutOrder_197 ?_
      refine gx_callR C (k_X2_second l (isPN_pad hP)) (isPN_in hP 4 (by decide)) (isPN_pad0 hP) rfl (cwV 0 C.2.2.2.2.1 gX6_carryOutOrder_X2_second rfl rfl rfl kdV_X2_second ⟨Nat.le_of_ble_eq_true rfl, Nat.le_of_ble_eq_true rfl⟩) rfl rfl (Nat.le_of_ble_eq_true rfl) ⟨Nat.le_of_ble_eq_true rfl, Nat.le_of_ble_eq_true rfl⟩ dX6_carryOutOrder_200 ?_
      refine gx_top b0 h4 ?_
      refine gx_callNi C hD hP (k_X5_glazePot l hL (isPN_now hP) _ _) (isPN_in hP 6 (by decide)) (isPN_now0 hP) rfl (cwV 2 C.2.2.2.2.1 gX6_carryOutOrder_X5_glazePot rfl rfl rfl kdV_X5_glazePot ⟨Nat.le_of_ble_eq_true rfl, Nat.le_of_ble_eq_true rfl⟩) rfl rfl (Nat.le_of_ble_eq_true rfl) ⟨Nat.le_of_ble_eq_true rfl, Nat.le_of_ble_eq_true rfl⟩ dX6_carryOutOrder_203 (fun f_3 hP_3 => ?_)
      exact gx_iretP C hr hP_3 dX6_carryOutOrder_206 ((if_neg n7_98).trans ((if_neg n7_99).trans ((if_neg n7_100).trans ((if_neg n7_101).trans ((if_neg n7_102).trans ((if_pos e7_103).trans (rfl))))))).symm (congrArg (pwNow q0) ((if_neg n7_98).trans ((if_neg n7_99).trans ((if_neg n7_100).trans ((if_neg n7_101).trans ((if_neg n7_102).trans ((if_pos e7_103).trans (rfl)))))))).symm
    · skip
      refine gx_tableIn (off := 215) (tgt := 222) C dX6_carryOutOrder_7 (by rw [sw_7]; decide) (by rw [sw_7]; decide) (by rw [sw_7]; rfl) (by decide) ?_
      have e7_104 : kd = 104 := gsw_eq sw_7 (by decide)
      have n7_98 : ¬ kd = 98 := gsw_n2 e7_104 (by decide)
      have n7_99 : ¬ kd = 99 := gsw_n2 e7_104 (by decide)
      have n7_100 : ¬ kd = 100 := gsw_n2 e7_104 (by decide)
      have n7_101 : ¬ kd = 101 := gsw_n2 e7_104 (by decide)
      have n7_102 : ¬ kd = 102 := gsw_n2 e7_104 (by decide)
      have n7_103 : ¬ kd = 103 := gsw_n2 e7_104 (by decide)
      refine gx_aload_n (q := 0) C dX6_carryOutOrder_222 rfl ?_
      refine gx_get C (i := 0) (isPN_in hP 0 (by decide)) (isPN_0 hP) rfl in_X6_carryOutOrder_6 (by decide) fl_X6_carryOutOrder_12 rfl dX6_carryOutOrder_223 ?_
      refine gx_aload_n (q := 0) C dX6_carryOutOrder_226 rfl ?_
      refine gx_get C (i := 3) (isPN_in hP 0 (by decide)) (isPN_0 hP) rfl in_X6_carryOutOrder_6 (by decide) fl_X6_carryOutOrder_30 rfl dX6_carryOutOrder_227 ?_
      refine gx_callR C (k_X2_first l (isPN_pad hP)) (isPN_in hP 4 (by decide)) (isPN_pad0 hP) rfl (cwV 0 C.2.2.2.2.1 gX6_carryOutOrder_X2_first rfl rfl rfl kdV_X2_first ⟨Nat.le_of_ble_eq_true rfl, Nat.le_of_ble_eq_true rfl⟩) rfl rfl (Nat.le_of_ble_eq_true rfl) ⟨Nat.le_of_ble_eq_true rfl, Nat.le_of_ble_eq_true rfl⟩ dX6_carryOutOrder_230 ?_
      refine gx_top a0 h3 ?_
      refine gx_callNi C hD hP (k_X5_handOver l hL (isPN_now hP) _) (isPN_in hP 6 (by decide)) (isPN_now0 hP) rfl (cwV 1 C.2.2.2.2.1 gX6_carryOutOrder_X5_handOver rfl rfl rfl kdV_X5_handOver ⟨Nat.le_of_ble_eq_true rfl, Nat.le_of_ble_eq_true rfl⟩) rfl rfl (Nat.le_of_ble_eq_true rfl) ⟨Nat.le_of_ble_eq_true rfl, Nat.le_of_ble_eq_true rfl⟩ dX6_carryOutOrder_233 (fun f_4 hP_4 => ?_)
      exact gx_iretP C hr hP_4 dX6_carryOutOrder_236 ((if_neg n7_98).trans ((if_neg n7_99).trans ((if_neg n7_100).trans ((if_neg n7_101).trans ((if_neg n7_102).trans ((if_neg n7_103).trans ((if_pos e7_104).trans (rfl)))))))).symm (congrArg (pwNow q0) ((if_neg n7_98).trans ((if_neg n7_99).trans ((if_neg n7_100).trans ((if_neg n7_101).trans ((if_neg n7_102).trans ((if_neg n7_103).trans ((if_pos e7_104).trans (rfl))))))))).symm
    · skip
      refine gx_tableIn (off := 230) (tgt := 237) C dX6_carryOutOrder_7 (by rw [sw_7]; decide) (by rw [sw_7]; decide) (by rw [sw_7]; rfl) (by decide) ?_
      have e7_105 : kd = 105 := gsw_eq sw_7 (by decide)
      have n7_98 : ¬ kd = 98 := gsw_n2 e7_105 (by decide)
      have n7_99 : ¬ kd = 99 := gsw_n2 e7_105 (by decide)
      have n7_100 : ¬ kd = 100 := gsw_n2 e7_105 (by decide)
      have n7_101 : ¬ kd = 101 := gsw_n2 e7_105 (by decide)
      have n7_102 : ¬ kd = 102 := gsw_n2 e7_105 (by decide)
      have n7_103 : ¬ kd = 103 := gsw_n2 e7_105 (by decide)
      have n7_104 : ¬ kd = 104 := gsw_n2 e7_105 (by decide)
      refine gx_bipush (v := (-3)) C dX6_carryOutOrder_237 (by decide) ?_
      exact gx_iretP C hr hP dX6_carryOutOrder_239 ((if_neg n7_98).trans ((if_neg n7_99).trans ((if_neg n7_100).trans ((if_neg n7_101).trans ((if_neg n7_102).trans ((if_neg n7_103).trans ((if_neg n7_104).trans ((if_pos e7_105).trans (rfl))))))))).symm (congrArg (pwNow q0) ((if_neg n7_98).trans ((if_neg n7_99).trans ((if_neg n7_100).trans ((if_neg n7_101).trans ((if_neg n7_102).trans ((if_neg n7_103).trans ((if_neg n7_104).trans ((if_pos e7_105).trans (rfl)))))))))).symm
    · skip
      refine gx_tableIn (off := 230) (tgt := 237) C dX6_carryOutOrder_7 (by rw [sw_7]; decide) (by rw [sw_7]; decide) (by rw [sw_7]; rfl) (by decide) ?_
      have e7_106 : kd = 106 := gsw_eq sw_7 (by decide)
      have n7_98 : ¬ kd = 98 := gsw_n2 e7_106 (by decide)
      have n7_99 : ¬ kd = 99 := gsw_n2 e7_106 (by decide)
      have n7_100 : ¬ kd = 100 := gsw_n2 e7_106 (by decide)
      have n7_101 : ¬ kd = 101 := gsw_n2 e7_106 (by decide)
      have n7_102 : ¬ kd = 102 := gsw_n2 e7_106 (by decide)
      have n7_103 : ¬ kd = 103 := gsw_n2 e7_106 (by decide)
      have n7_104 : ¬ kd = 104 := gsw_n2 e7_106 (by decide)
      have n7_105 : ¬ kd = 105 := gsw_n2 e7_106 (by decide)
      refine gx_bipush (v := (-3)) C dX6_carryOutOrder_237 (by decide) ?_
      exact gx_iretP C hr hP dX6_carryOutOrder_239 ((if_neg n7_98).trans ((if_neg n7_99).trans ((if_neg n7_100).trans ((if_neg n7_101).trans ((if_neg n7_102).trans ((if_neg n7_103).trans ((if_neg n7_104).trans ((if_neg n7_105).trans ((if_pos e7_106).trans (rfl)))))))))).symm (congrArg (pwNow q0) ((if_neg n7_98).trans ((if_neg n7_99).trans ((if_neg n7_100).trans ((if_neg n7_101).trans ((if_neg n7_102).trans ((if_neg n7_103).trans ((if_neg n7_104).trans ((if_neg n7_105).trans ((if_pos e7_106).trans (rfl))))))))))).symm
    · skip
      refine gx_tableIn (off := 230) (tgt := 237) C dX6_carryOutOrder_7 (by rw [sw_7]; decide) (by rw [sw_7]; decide) (by rw [sw_7]; rfl) (by decide) ?_
      have e7_107 : kd = 107 := gsw_eq sw_7 (by decide)
      have n7_98 : ¬ kd = 98 := gsw_n2 e7_107 (by decide)
      have n7_99 : ¬ kd = 99 := gsw_n2 e7_107 (by decide)
      have n7_100 : ¬ kd = 100 := gsw_n2 e7_107 (by decide)
      have n7_101 : ¬ kd = 101 := gsw_n2 e7_107 (by decide)
      have n7_102 : ¬ kd = 102 := gsw_n2 e7_107 (by decide)
      have n7_103 : ¬ kd = 103 := gsw_n2 e7_107 (by decide)
      have n7_104 : ¬ kd = 104 := gsw_n2 e7_107 (by decide)
      have n7_105 : ¬ kd = 105 := gsw_n2 e7_107 (by decide)
      have n7_106 : ¬ kd = 106 := gsw_n2 e7_107 (by decide)
      refine gx_bipush (v := (-3)) C dX6_carryOutOrder_237 (by decide) ?_
      exact gx_iretP C hr hP dX6_carryOutOrder_239 ((if_neg n7_98).trans ((if_neg n7_99).trans ((if_neg n7_100).trans ((if_neg n7_101).trans ((if_neg n7_102).trans ((if_neg n7_103).trans ((if_neg n7_104).trans ((if_neg n7_105).trans ((if_neg n7_106).trans ((if_pos e7_107).trans (rfl))))))))))).symm (congrArg (pwNow q0) ((if_neg n7_98).trans ((if_neg n7_99).trans ((if_neg n7_100).trans ((if_neg n7_101).trans ((if_neg n7_102).trans ((if_neg n7_103).trans ((if_neg n7_104).trans ((if_neg n7_105).trans ((if_neg n7_106).trans ((if_pos e7_107).trans (rfl)))))))))))).symm
    · skip
      refine gx_tableIn (off := 148) (tgt := 155) C dX6_carryOutOrder_7 (by rw [sw_7]; decide) (by rw [sw_7]; decide) (by rw [sw_7]; rfl) (by decide) ?_
      have e7_108 : kd = 108 := gsw_eq sw_7 (by decide)
      have n7_98 : ¬ kd = 98 := gsw_n2 e7_108 (by decide)
      have n7_99 : ¬ kd = 99 := gsw_n2 e7_108 (by decide)
      have n7_100 : ¬ kd = 100 := gsw_n2 e7_108 (by decide)
      have n7_101 : ¬ kd = 101 := gsw_n2 e7_108 (by decide)
      have n7_102 : ¬ kd = 102 := gsw_n2 e7_108 (by decide)
      have n7_103 : ¬ kd = 103 := gsw_n2 e7_108 (by decide)
      have n7_104 : ¬ kd = 104 := gsw_n2 e7_108 (by decide)
      have n7_105 : ¬ kd = 105 := gsw_n2 e7_108 (by decide)
      have n7_106 : ¬ kd = 106 := gsw_n2 e7_108 (by decide)
      have n7_107 : ¬ kd = 107 := gsw_n2 e7_108 (by decide)
      refine gx_aload_n (q := 0) C dX6_carryOutOrder_155 rfl ?_
      refine gx_get C (i := 0) (isPN_in hP 0 (by decide)) (isPN_0 hP) rfl in_X6_carryOutOrder_6 (by decide) fl_X6_carryOutOrder_12 rfl dX6_carryOutOrder_156 ?_
      refine gx_aload_n (q := 0) C dX6_carryOutOrder_159 rfl ?_
      refine gx_get C (i := 3) (isPN_in hP 0 (by decide)) (isPN_0 hP) rfl in_X6_carryOutOrder_6 (by decide) fl_X6_carryOutOrder_30 rfl dX6_carryOutOrder_160 ?_
      refine gx_callR C (k_X2_first l (isPN_pad hP)) (isPN_in hP 4 (by decide)) (isPN_pad0 hP) rfl (cwV 0 C.2.2.2.2.1 gX6_carryOutOrder_X2_first rfl rfl rfl kdV_X2_first ⟨Nat.le_of_ble_eq_true rfl, Nat.le_of_ble_eq_true rfl⟩) rfl rfl (Nat.le_of_ble_eq_true rfl) ⟨Nat.le_of_ble_eq_true rfl, Nat.le_of_ble_eq_true rfl⟩ dX6_carryOutOrder_163 ?_
      refine gx_top a0 h3 ?_
      refine gx_callNi C hD hP (k_X5_moveIntoKiln l hL (isPN_now hP) hN _) (isPN_in hP 6 (by decide)) (isPN_now0 hP) rfl (cwV 1 C.2.2.2.2.1 gX6_carryOutOrder_X5_moveIntoKiln rfl rfl rfl kdV_X5_moveIntoKiln ⟨Nat.le_of_ble_eq_true rfl, Nat.le_of_ble_eq_true rfl⟩) rfl rfl (Nat.le_of_ble_eq_true rfl) ⟨Nat.le_of_ble_eq_true rfl, Nat.le_of_ble_eq_true rfl⟩ dX6_carryOutOrder_166 (fun f_5 hP_5 => ?_)
      exact gx_iretP C hr hP_5 dX6_carryOutOrder_169 ((if_neg n7_98).trans ((if_neg n7_99).trans ((if_neg n7_100).trans ((if_neg n7_101).trans ((if_neg n7_102).trans ((if_neg n7_103).trans ((if_neg n7_104).trans ((if_neg n7_105).trans ((if_neg n7_106).trans ((if_neg n7_107).trans ((if_pos e7_108).trans (rfl)))))))))))).symm (congrArg (pwNow q0) ((if_neg n7_98).trans ((if_neg n7_99).trans ((if_neg n7_100).trans ((if_neg n7_101).trans ((if_neg n7_102).trans ((if_neg n7_103).trans ((if_neg n7_104).trans ((if_neg n7_105).trans ((if_neg n7_106).trans ((if_neg n7_107).trans ((if_pos e7_108).trans (rfl))))))))))))).symm
    · skip
      refine gx_tableIn (off := 230) (tgt := 237) C dX6_carryOutOrder_7 (by rw [sw_7]; decide) (by rw [sw_7]; decide) (by rw [sw_7]; rfl) (by decide) ?_
      have e7_109 : kd = 109 := gsw_eq sw_7 (by decide)
      have n7_98 : ¬ kd = 98 := gsw_n2 e7_109 (by decide)
      have n7_99 : ¬ kd = 99 := gsw_n2 e7_109 (by decide)
      have n7_100 : ¬ kd = 100 := gsw_n2 e7_109 (by decide)
      have n7_101 : ¬ kd = 101 := gsw_n2 e7_109 (by decide)
      have n7_102 : ¬ kd = 102 := gsw_n2 e7_109 (by decide)
      have n7_103 : ¬ kd = 103 := gsw_n2 e7_109 (by decide)
      have n7_104 : ¬ kd = 104 := gsw_n2 e7_109 (by decide)
      have n7_105 : ¬ kd = 105 := gsw_n2 e7_109 (by decide)
      have n7_106 : ¬ kd = 106 := gsw_n2 e7_109 (by decide)
      have n7_107 : ¬ kd = 107 := gsw_n2 e7_109 (by decide)
      have n7_108 : ¬ kd = 108 := gsw_n2 e7_109 (by decide)
      refine gx_bipush (v := (-3)) C dX6_carryOutOrder_237 (by decide) ?_
      exact gx_iretP C hr hP dX6_carryOutOrder_239 ((if_neg n7_98).trans ((if_neg n7_99).trans ((if_neg n7_100).trans ((if_neg n7_101).trans ((if_neg n7_102).trans ((if_neg n7_103).trans ((if_neg n7_104).trans ((if_neg n7_105).trans ((if_neg n7_106).trans ((if_neg n7_107).trans ((if_neg n7_108).trans ((if_pos e7_109).trans (rfl))))))))))))).symm (congrArg (pwNow q0) ((if_neg n7_98).trans ((if_neg n7_99).trans ((if_neg n7_100).trans ((if_neg n7_101).trans ((if_neg n7_102).trans ((if_neg n7_103).trans ((if_neg n7_104).trans ((if_neg n7_105).trans ((if_neg n7_106).trans ((if_neg n7_107).trans ((if_neg n7_108).trans ((if_pos e7_109).trans (rfl)))))))))))))).symm
    · skip
      refine gx_tableIn (off := 200) (tgt := 207) C dX6_carryOutOrder_7 (by rw [sw_7]; decide) (by rw [sw_7]; decide) (by rw [sw_7]; rfl) (by decide) ?_
      have e7_110 : kd = 110 := gsw_eq sw_7 (by decide)
      have n7_98 : ¬ kd = 98 := gsw_n2 e7_110 (by decide)
      have n7_99 : ¬ kd = 99 := gsw_n2 e7_110 (by decide)
      have n7_100 : ¬ kd = 100 := gsw_n2 e7_110 (by decide)
      have n7_101 : ¬ kd = 101 := gsw_n2 e7_110 (by decide)
      have n7_102 : ¬ kd = 102 := gsw_n2 e7_110 (by decide)
      have n7_103 : ¬ kd = 103 := gsw_n2 e7_110 (by decide)
      have n7_104 : ¬ kd = 104 := gsw_n2 e7_110 (by decide)
      have n7_105 : ¬ kd = 105 := gsw_n2 e7_110 (by decide)
      have n7_106 : ¬ kd = 106 := gsw_n2 e7_110 (by decide)
      have n7_107 : ¬ kd = 107 := gsw_n2 e7_110 (by decide)
      have n7_108 : ¬ kd = 108 := gsw_n2 e7_110 (by decide)
      have n7_109 : ¬ kd = 109 := gsw_n2 e7_110 (by decide)
      refine gx_aload_n (q := 0) C dX6_carryOutOrder_207 rfl ?_
      refine gx_get C (i := 0) (isPN_in hP 0 (by decide)) (isPN_0 hP) rfl in_X6_carryOutOrder_6 (by decide) fl_X6_carryOutOrder_12 rfl dX6_carryOutOrder_208 ?_
      refine gx_aload_n (q := 0) C dX6_carryOutOrder_211 rfl ?_
      refine gx_get C (i := 3) (isPN_in hP 0 (by decide)) (isPN_0 hP) rfl in_X6_carryOutOrder_6 (by decide) fl_X6_carryOutOrder_30 rfl dX6_carryOutOrder_212 ?_
      refine gx_callR C (k_X2_first l (isPN_pad hP)) (isPN_in hP 4 (by decide)) (isPN_pad0 hP) rfl (cwV 0 C.2.2.2.2.1 gX6_carryOutOrder_X2_first rfl rfl rfl kdV_X2_first ⟨Nat.le_of_ble_eq_true rfl, Nat.le_of_ble_eq_true rfl⟩) rfl rfl (Nat.le_of_ble_eq_true rfl) ⟨Nat.le_of_ble_eq_true rfl, Nat.le_of_ble_eq_true rfl⟩ dX6_carryOutOrder_215 ?_
      refine gx_top a0 h3 ?_
      refine gx_callNi C hD hP (k_X5_passNights l hL (isPN_now hP) hN _) (isPN_in hP 6 (by decide)) (isPN_now0 hP) rfl (cwV 1 C.2.2.2.2.1 gX6_carryOutOrder_X5_passNights rfl rfl rfl kdV_X5_passNights ⟨Nat.le_of_ble_eq_true rfl, Nat.le_of_ble_eq_true rfl⟩) rfl rfl (Nat.le_of_ble_eq_true rfl) ⟨Nat.le_of_ble_eq_true rfl, Nat.le_of_ble_eq_true rfl⟩ dX6_carryOutOrder_218 (fun f_6 hP_6 => ?_)
      exact gx_iretP C hr hP_6 dX6_carryOutOrder_221 ((if_neg n7_98).trans ((if_neg n7_99).trans ((if_neg n7_100).trans ((if_neg n7_101).trans ((if_neg n7_102).trans ((if_neg n7_103).trans ((if_neg n7_104).trans ((if_neg n7_105).trans ((if_neg n7_106).trans ((if_neg n7_107).trans ((if_neg n7_108).trans ((if_neg n7_109).trans ((if_pos e7_110).trans (rfl)))))))))))))).symm (congrArg (pwNow q0) ((if_neg n7_98).trans ((if_neg n7_99).trans ((if_neg n7_100).trans ((if_neg n7_101).trans ((if_neg n7_102).trans ((if_neg n7_103).trans ((if_neg n7_104).trans ((if_neg n7_105).trans ((if_neg n7_106).trans ((if_neg n7_107).trans ((if_neg n7_108).trans ((if_neg n7_109).trans ((if_pos e7_110).trans (rfl))))))))))))))).symm
    · skip
      refine gx_tableIn (off := 230) (tgt := 237) C dX6_carryOutOrder_7 (by rw [sw_7]; decide) (by rw [sw_7]; decide) (by rw [sw_7]; rfl) (by decide) ?_
      have e7_111 : kd = 111 := gsw_eq sw_7 (by decide)
      have n7_98 : ¬ kd = 98 := gsw_n2 e7_111 (by decide)
      have n7_99 : ¬ kd = 99 := gsw_n2 e7_111 (by decide)
      have n7_100 : ¬ kd = 100 := gsw_n2 e7_111 (by decide)
      have n7_101 : ¬ kd = 101 := gsw_n2 e7_111 (by decide)
      have n7_102 : ¬ kd = 102 := gsw_n2 e7_111 (by decide)
      have n7_103 : ¬ kd = 103 := gsw_n2 e7_111 (by decide)
      have n7_104 : ¬ kd = 104 := gsw_n2 e7_111 (by decide)
      have n7_105 : ¬ kd = 105 := gsw_n2 e7_111 (by decide)
      have n7_106 : ¬ kd = 106 := gsw_n2 e7_111 (by decide)
      have n7_107 : ¬ kd = 107 := gsw_n2 e7_111 (by decide)
      have n7_108 : ¬ kd = 108 := gsw_n2 e7_111 (by decide)
      have n7_109 : ¬ kd = 109 := gsw_n2 e7_111 (by decide)
      have n7_110 : ¬ kd = 110 := gsw_n2 e7_111 (by decide)
      refine gx_bipush (v := (-3)) C dX6_carryOutOrder_237 (by decide) ?_
      exact gx_iretP C hr hP dX6_carryOutOrder_239 ((if_neg n7_98).trans ((if_neg n7_99).trans ((if_neg n7_100).trans ((if_neg n7_101).trans ((if_neg n7_102).trans ((if_neg n7_103).trans ((if_neg n7_104).trans ((if_neg n7_105).trans ((if_neg n7_106).trans ((if_neg n7_107).trans ((if_neg n7_108).trans ((if_neg n7_109).trans ((if_neg n7_110).trans ((if_pos e7_111).trans (rfl))))))))))))))).symm (congrArg (pwNow q0) ((if_neg n7_98).trans ((if_neg n7_99).trans ((if_neg n7_100).trans ((if_neg n7_101).trans ((if_neg n7_102).trans ((if_neg n7_103).trans ((if_neg n7_104).trans ((if_neg n7_105).trans ((if_neg n7_106).trans ((if_neg n7_107).trans ((if_neg n7_108).trans ((if_neg n7_109).trans ((if_neg n7_110).trans ((if_pos e7_111).trans (rfl)))))))))))))))).symm
    · skip
      refine gx_tableIn (off := 89) (tgt := 96) C dX6_carryOutOrder_7 (by rw [sw_7]; decide) (by rw [sw_7]; decide) (by rw [sw_7]; rfl) (by decide) ?_
      have e7_112 : kd = 112 := gsw_eq sw_7 (by decide)
      have n7_98 : ¬ kd = 98 := gsw_n2 e7_112 (by decide)
      have n7_99 : ¬ kd = 99 := gsw_n2 e7_112 (by decide)
      have n7_100 : ¬ kd = 100 := gsw_n2 e7_112 (by decide)
      have n7_101 : ¬ kd = 101 := gsw_n2 e7_112 (by decide)
      have n7_102 : ¬ kd = 102 := gsw_n2 e7_112 (by decide)
      have n7_103 : ¬ kd = 103 := gsw_n2 e7_112 (by decide)
      have n7_104 : ¬ kd = 104 := gsw_n2 e7_112 (by decide)
      have n7_105 : ¬ kd = 105 := gsw_n2 e7_112 (by decide)
      have n7_106 : ¬ kd = 106 := gsw_n2 e7_112 (by decide)
      have n7_107 : ¬ kd = 107 := gsw_n2 e7_112 (by decide)
      have n7_108 : ¬ kd = 108 := gsw_n2 e7_112 (by decide)
      have n7_109 : ¬ kd = 109 := gsw_n2 e7_112 (by decide)
      have n7_110 : ¬ kd = 110 := gsw_n2 e7_112 (by decide)
      have n7_111 : ¬ kd = 111 := gsw_n2 e7_112 (by decide)
      refine gx_aload_n (q := 0) C dX6_carryOutOrder_96 rfl ?_
      refine gx_get C (i := 0) (isPN_in hP 0 (by decide)) (isPN_0 hP) rfl in_X6_carryOutOrder_6 (by decide) fl_X6_carryOutOrder_12 rfl dX6_carryOutOrder_97 ?_
      refine gx_callNi C hD hP (k_X5_admitPupil l hL (isPN_now hP) ) (isPN_in hP 6 (by decide)) (isPN_now0 hP) rfl (cwV 0 C.2.2.2.2.1 gX6_carryOutOrder_X5_admitPupil rfl rfl rfl kdV_X5_admitPupil ⟨Nat.le_of_ble_eq_true rfl, Nat.le_of_ble_eq_true rfl⟩) rfl rfl (Nat.le_of_ble_eq_true rfl) ⟨Nat.le_of_ble_eq_true rfl, Nat.le_of_ble_eq_true rfl⟩ dX6_carryOutOrder_100 (fun f_7 hP_7 => ?_)
      exact gx_iretP C hr hP_7 dX6_carryOutOrder_103 ((if_neg n7_98).trans ((if_neg n7_99).trans ((if_neg n7_100).trans ((if_neg n7_101).trans ((if_neg n7_102).trans ((if_neg n7_103).trans ((if_neg n7_104).trans ((if_neg n7_105).trans ((if_neg n7_106).trans ((if_neg n7_107).trans ((if_neg n7_108).trans ((if_neg n7_109).trans ((if_neg n7_110).trans ((if_neg n7_111).trans ((if_pos e7_112).trans (rfl)))))))))))))))).symm (congrArg (pwNow q0) ((if_neg n7_98).trans ((if_neg n7_99).trans ((if_neg n7_100).trans ((if_neg n7_101).trans ((if_neg n7_102).trans ((if_neg n7_103).trans ((if_neg n7_104).trans ((if_neg n7_105).trans ((if_neg n7_106).trans ((if_neg n7_107).trans ((if_neg n7_108).trans ((if_neg n7_109).trans ((if_neg n7_110).trans ((if_neg n7_111).trans ((if_pos e7_112).trans (rfl))))))))))))))))).symm
    · skip
      refine gx_tableIn (off := 230) (tgt := 237) C dX6_carryOutOrder_7 (by rw [sw_7]; decide) (by rw [sw_7]; decide) (by rw [sw_7]; rfl) (by decide) ?_
      have e7_113 : kd = 113 := gsw_eq sw_7 (by decide)
      have n7_98 : ¬ kd = 98 := gsw_n2 e7_113 (by decide)
      have n7_99 : ¬ kd = 99 := gsw_n2 e7_113 (by decide)
      have n7_100 : ¬ kd = 100 := gsw_n2 e7_113 (by decide)
      have n7_101 : ¬ kd = 101 := gsw_n2 e7_113 (by decide)
      have n7_102 : ¬ kd = 102 := gsw_n2 e7_113 (by decide)
      have n7_103 : ¬ kd = 103 := gsw_n2 e7_113 (by decide)
      have n7_104 : ¬ kd = 104 := gsw_n2 e7_113 (by decide)
      have n7_105 : ¬ kd = 105 := gsw_n2 e7_113 (by decide)
      have n7_106 : ¬ kd = 106 := gsw_n2 e7_113 (by decide)
      have n7_107 : ¬ kd = 107 := gsw_n2 e7_113 (by decide)
      have n7_108 : ¬ kd = 108 := gsw_n2 e7_113 (by decide)
      have n7_109 : ¬ kd = 109 := gsw_n2 e7_113 (by decide)
      have n7_110 : ¬ kd = 110 := gsw_n2 e7_113 (by decide)
      have n7_111 : ¬ kd = 111 := gsw_n2 e7_113 (by decide)
      have n7_112 : ¬ kd = 112 := gsw_n2 e7_113 (by decide)
      refine gx_bipush (v := (-3)) C dX6_carryOutOrder_237 (by decide) ?_
      exact gx_iretP C hr hP dX6_carryOutOrder_239 ((if_neg n7_98).trans ((if_neg n7_99).trans ((if_neg n7_100).trans ((if_neg n7_101).trans ((if_neg n7_102).trans ((if_neg n7_103).trans ((if_neg n7_104).trans ((if_neg n7_105).trans ((if_neg n7_106).trans ((if_neg n7_107).trans ((if_neg n7_108).trans ((if_neg n7_109).trans ((if_neg n7_110).trans ((if_neg n7_111).trans ((if_neg n7_112).trans ((if_pos e7_113).trans (rfl))))))))))))))))).symm (congrArg (pwNow q0) ((if_neg n7_98).trans ((if_neg n7_99).trans ((if_neg n7_100).trans ((if_neg n7_101).trans ((if_neg n7_102).trans ((if_neg n7_103).trans ((if_neg n7_104).trans ((if_neg n7_105).trans ((if_neg n7_106).trans ((if_neg n7_107).trans ((if_neg n7_108).trans ((if_neg n7_109).trans ((if_neg n7_110).trans ((if_neg n7_111).trans ((if_neg n7_112).trans ((if_pos e7_113).trans (rfl)))))))))))))))))).symm
    · skip
      refine gx_tableIn (off := 230) (tgt := 237) C dX6_carryOutOrder_7 (by rw [sw_7]; decide) (by rw [sw_7]; decide) (by rw [sw_7]; rfl) (by decide) ?_
      have e7_114 : kd = 114 := gsw_eq sw_7 (by decide)
      have n7_98 : ¬ kd = 98 := gsw_n2 e7_114 (by decide)
      have n7_99 : ¬ kd = 99 := gsw_n2 e7_114 (by decide)
      have n7_100 : ¬ kd = 100 := gsw_n2 e7_114 (by decide)
      have n7_101 : ¬ kd = 101 := gsw_n2 e7_114 (by decide)
      have n7_102 : ¬ kd = 102 := gsw_n2 e7_114 (by decide)
      have n7_103 : ¬ kd = 103 := gsw_n2 e7_114 (by decide)
      have n7_104 : ¬ kd = 104 := gsw_n2 e7_114 (by decide)
      have n7_105 : ¬ kd = 105 := gsw_n2 e7_114 (by decide)
      have n7_106 : ¬ kd = 106 := gsw_n2 e7_114 (by decide)
      have n7_107 : ¬ kd = 107 := gsw_n2 e7_114 (by decide)
      have n7_108 : ¬ kd = 108 := gsw_n2 e7_114 (by decide)
      have n7_109 : ¬ kd = 109 := gsw_n2 e7_114 (by decide)
      have n7_110 : ¬ kd = 110 := gsw_n2 e7_114 (by decide)
      have n7_111 : ¬ kd = 111 := gsw_n2 e7_114 (by decide)
      have n7_112 : ¬ kd = 112 := gsw_n2 e7_114 (by decide)
      have n7_113 : ¬ kd = 113 := gsw_n2 e7_114 (by decide)
      refine gx_bipush (v := (-3)) C dX6_carryOutOrder_237 (by decide) ?_
      exact gx_iretP C hr hP dX6_carryOutOrder_239 ((if_neg n7_98).trans ((if_neg n7_99).trans ((if_neg n7_100).trans ((if_neg n7_101).trans ((if_neg n7_102).trans ((if_neg n7_103).trans ((if_neg n7_104).trans ((if_neg n7_105).trans ((if_neg n7_106).trans ((if_neg n7_107).trans ((if_neg n7_108).trans ((if_neg n7_109).trans ((if_neg n7_110).trans ((if_neg n7_111).trans ((if_neg n7_112).trans ((if_neg n7_113).trans ((if_pos e7_114).trans (rfl)))))))))))))))))).symm (congrArg (pwNow q0) ((if_neg n7_98).trans ((if_neg n7_99).trans ((if_neg n7_100).trans ((if_neg n7_101).trans ((if_neg n7_102).trans ((if_neg n7_103).trans ((if_neg n7_104).trans ((if_neg n7_105).trans ((if_neg n7_106).trans ((if_neg n7_107).trans ((if_neg n7_108).trans ((if_neg n7_109).trans ((if_neg n7_110).trans ((if_neg n7_111).trans ((if_neg n7_112).trans ((if_neg n7_113).trans ((if_pos e7_114).trans (rfl))))))))))))))))))).symm
    · skip
      refine gx_tableIn (off := 230) (tgt := 237) C dX6_carryOutOrder_7 (by rw [sw_7]; decide) (by rw [sw_7]; decide) (by rw [sw_7]; rfl) (by decide) ?_
      have e7_115 : kd = 115 := gsw_eq sw_7 (by decide)
      have n7_98 : ¬ kd = 98 := gsw_n2 e7_115 (by decide)
      have n7_99 : ¬ kd = 99 := gsw_n2 e7_115 (by decide)
      have n7_100 : ¬ kd = 100 := gsw_n2 e7_115 (by decide)
      have n7_101 : ¬ kd = 101 := gsw_n2 e7_115 (by decide)
      have n7_102 : ¬ kd = 102 := gsw_n2 e7_115 (by decide)
      have n7_103 : ¬ kd = 103 := gsw_n2 e7_115 (by decide)
      have n7_104 : ¬ kd = 104 := gsw_n2 e7_115 (by decide)
      have n7_105 : ¬ kd = 105 := gsw_n2 e7_115 (by decide)
      have n7_106 : ¬ kd = 106 := gsw_n2 e7_115 (by decide)
      have n7_107 : ¬ kd = 107 := gsw_n2 e7_115 (by decide)
      have n7_108 : ¬ kd = 108 := gsw_n2 e7_115 (by decide)
      have n7_109 : ¬ kd = 109 := gsw_n2 e7_115 (by decide)
      have n7_110 : ¬ kd = 110 := gsw_n2 e7_115 (by decide)
      have n7_111 : ¬ kd = 111 := gsw_n2 e7_115 (by decide)
      have n7_112 : ¬ kd = 112 := gsw_n2 e7_115 (by decide)
      have n7_113 : ¬ kd = 113 := gsw_n2 e7_115 (by decide)
      have n7_114 : ¬ kd = 114 := gsw_n2 e7_115 (by decide)
      refine gx_bipush (v := (-3)) C dX6_carryOutOrder_237 (by decide) ?_
      exact gx_iretP C hr hP dX6_carryOutOrder_239 ((if_neg n7_98).trans ((if_neg n7_99).trans ((if_neg n7_100).trans ((if_neg n7_101).trans ((if_neg n7_102).trans ((if_neg n7_103).trans ((if_neg n7_104).trans ((if_neg n7_105).trans ((if_neg n7_106).trans ((if_neg n7_107).trans ((if_neg n7_108).trans ((if_neg n7_109).trans ((if_neg n7_110).trans ((if_neg n7_111).trans ((if_neg n7_112).trans ((if_neg n7_113).trans ((if_neg n7_114).trans ((if_pos e7_115).trans (rfl))))))))))))))))))).symm (congrArg (pwNow q0) ((if_neg n7_98).trans ((if_neg n7_99).trans ((if_neg n7_100).trans ((if_neg n7_101).trans ((if_neg n7_102).trans ((if_neg n7_103).trans ((if_neg n7_104).trans ((if_neg n7_105).trans ((if_neg n7_106).trans ((if_neg n7_107).trans ((if_neg n7_108).trans ((if_neg n7_109).trans ((if_neg n7_110).trans ((if_neg n7_111).trans ((if_neg n7_112).trans ((if_neg n7_113).trans ((if_neg n7_114).trans ((if_pos e7_115).trans (rfl)))))))))))))))))))).symm
    · skip
      refine gx_tableIn (off := 126) (tgt := 133) C dX6_carryOutOrder_7 (by rw [sw_7]; decide) (by rw [sw_7]; decide) (by rw [sw_7]; rfl) (by decide) ?_
      have e7_116 : kd = 116 := gsw_eq sw_7 (by decide)
      have n7_98 : ¬ kd = 98 := gsw_n2 e7_116 (by decide)
      have n7_99 : ¬ kd = 99 := gsw_n2 e7_116 (by decide)
      have n7_100 : ¬ kd = 100 := gsw_n2 e7_116 (by decide)
      have n7_101 : ¬ kd = 101 := gsw_n2 e7_116 (by decide)
      have n7_102 : ¬ kd = 102 := gsw_n2 e7_116 (by decide)
      have n7_103 : ¬ kd = 103 := gsw_n2 e7_116 (by decide)
      have n7_104 : ¬ kd = 104 := gsw_n2 e7_116 (by decide)
      have n7_105 : ¬ kd = 105 := gsw_n2 e7_116 (by decide)
      have n7_106 : ¬ kd = 106 := gsw_n2 e7_116 (by decide)
      have n7_107 : ¬ kd = 107 := gsw_n2 e7_116 (by decide)
      have n7_108 : ¬ kd = 108 := gsw_n2 e7_116 (by decide)
      have n7_109 : ¬ kd = 109 := gsw_n2 e7_116 (by decide)
      have n7_110 : ¬ kd = 110 := gsw_n2 e7_116 (by decide)
      have n7_111 : ¬ kd = 111 := gsw_n2 e7_116 (by decide)
      have n7_112 : ¬ kd = 112 := gsw_n2 e7_116 (by decide)
      have n7_113 : ¬ kd = 113 := gsw_n2 e7_116 (by decide)
      have n7_114 : ¬ kd = 114 := gsw_n2 e7_116 (by decide)
      have n7_115 : ¬ kd = 115 := gsw_n2 e7_116 (by decide)
      refine gx_aload_n (q := 0) C dX6_carryOutOrder_133 rfl ?_
      refine gx_get C (i := 0) (isPN_in hP 0 (by decide)) (isPN_0 hP) rfl in_X6_carryOutOrder_6 (by decide) fl_X6_carryOutOrder_12 rfl dX6_carryOutOrder_134 ?_
      refine gx_aload_n (q := 0) C dX6_carryOutOrder_137 rfl ?_
      refine gx_get C (i := 3) (isPN_in hP 0 (by decide)) (isPN_0 hP) rfl in_X6_carryOutOrder_6 (by decide) fl_X6_carryOutOrder_30 rfl dX6_carryOutOrder_138 ?_
      refine gx_callR C (k_X2_first l (isPN_pad hP)) (isPN_in hP 4 (by decide)) (isPN_pad0 hP) rfl (cwV 0 C.2.2.2.2.1 gX6_carryOutOrder_X2_first rfl rfl rfl kdV_X2_first ⟨Nat.le_of_ble_eq_true rfl, Nat.le_of_ble_eq_true rfl⟩) rfl rfl (Nat.le_of_ble_eq_true rfl) ⟨Nat.le_of_ble_eq_true rfl, Nat.le_of_ble_eq_true rfl⟩ dX6_carryOutOrder_141 ?_
      refine gx_top a0 h3 ?_
      refine gx_aload_n (q := 0) C dX6_carryOutOrder_144 rfl ?_
      refine gx_get C (i := 3) (isPN_in hP 0 (by decide)) (isPN_0 hP) rfl in_X6_carryOutOrder_6 (by decide) fl_X6_carryOutOrder_30 rfl dX6_carryOutOrder_145 ?_
      refine gx_callR C (k_X2_second l (isPN_pad hP)) (isPN_in hP 4 (by decide)) (isPN_pad0 hP) rfl (cwV 0 C.2.2.2.2.1 gX6_carryOutOrder_X2_second rfl rfl rfl kdV_X2_second ⟨Nat.le_of_ble_eq_true rfl, Nat.le_of_ble_eq_true rfl⟩) rfl rfl (Nat.le_of_ble_eq_true rfl) ⟨Nat.le_of_ble_eq_true rfl, Nat.le_of_ble_eq_true rfl⟩ dX6_carryOutOrder_148 ?_
      refine gx_top b0 h4 ?_
      refine gx_callNi C hD hP (k_X5_throwClay l hL (isPN_now hP) hN _ _) (isPN_in hP 6 (by decide)) (isPN_now0 hP) rfl (cwV 2 C.2.2.2.2.1 gX6_carryOutOrder_X5_throwClay rfl rfl rfl kdV_X5_throwClay ⟨Nat.le_of_ble_eq_true rfl, Nat.le_of_ble_eq_true rfl⟩) rfl rfl (Nat.le_of_ble_eq_true rfl) ⟨Nat.le_of_ble_eq_true rfl, Nat.le_of_ble_eq_true rfl⟩ dX6_carryOutOrder_151 (fun f_8 hP_8 => ?_)
      exact gx_iretP C hr hP_8 dX6_carryOutOrder_154 ((if_neg n7_98).trans ((if_neg n7_99).trans ((if_neg n7_100).trans ((if_neg n7_101).trans ((if_neg n7_102).trans ((if_neg n7_103).trans ((if_neg n7_104).trans ((if_neg n7_105).trans ((if_neg n7_106).trans ((if_neg n7_107).trans ((if_neg n7_108).trans ((if_neg n7_109).trans ((if_neg n7_110).trans ((if_neg n7_111).trans ((if_neg n7_112).trans ((if_neg n7_113).trans ((if_neg n7_114).trans ((if_neg n7_115).trans ((if_pos e7_116).trans (rfl)))))))))))))))))))).symm (congrArg (pwNow q0) ((if_neg n7_98).trans ((if_neg n7_99).trans ((if_neg n7_100).trans ((if_neg n7_101).trans ((if_neg n7_102).trans ((if_neg n7_103).trans ((if_neg n7_104).trans ((if_neg n7_105).trans ((if_neg n7_106).trans ((if_neg n7_107).trans ((if_neg n7_108).trans ((if_neg n7_109).trans ((if_neg n7_110).trans ((if_neg n7_111).trans ((if_neg n7_112).trans ((if_neg n7_113).trans ((if_neg n7_114).trans ((if_neg n7_115).trans ((if_pos e7_116).trans (rfl))))))))))))))))))))).symm
theorem kdN_X6_restore : yX6_restore.cls ≠ "java/lang/invoke/MethodHandle" ∧ yX6_restore.cls ≠ "java/lang/invoke/VarHandle" ∧ (parseMethodDescriptor yX6_restore.desc).map (fun d => d.parameters.length) = some 1 := by decide +kernel
theorem kdV_X6_restore : yX6_restore.cls = RX6 ∧ yX6_restore.cls ≠ "java/lang/invoke/MethodHandle" ∧ yX6_restore.cls ≠ "java/lang/invoke/VarHandle" ∧ (parseMethodDescriptor yX6_restore.desc).map (fun d => d.parameters.length) = some 1 := ⟨rfl, kdN_X6_restore⟩
section
variable {p : Program} {l : Launch} {e : Env} {R : Room} {s : State} {m : MethodId} {args : Array Value} {below : List Frame} {meth : Method} {c : Code} {k : gK} {cc : ByteArray} {own : String} {nL : Nat} {Ts : List Cond} {rd : Prop} {A : Nat → Prop} {H0 : Heap} {Q : State → Prop} {L : List Nat} {cells slots : Nat} {f f0 : Nat → va_E} {pc : Nat} {lv : List (Nat × Value)} {rest st : List Value} {x : Int32}
theorem gx_aload_nN (C : gC k p s m args meth c cc own nL Ts) {i : Fin 4} {q : Nat} (hdg : decode cc pc = .ok (.aload_n i, 1)) (hk : lv[q]? = some ((i : Nat), .null)) (kk : gW p l e R s m args below meth c k nL rd A H0 Q L cells slots f (pc + 1) lv (.null :: rest)) : gW p l e R s m args below meth c k nL rd A H0 Q L cells slots f pc lv rest := fun H locs ls hP hS hr hl => lv_aload_nN C.1 C.2.1 hdg rfl (lv_at hl q hk) (kk H locs ls hP hS hr hl)
theorem gx_astore_nN (C : gC k p s m args meth c cc own nL Ts) {j : Fin 4} {i : Nat} (lv2 : List (Nat × Value)) (hdg : decode cc pc = .ok (.astore_n j, 1)) (hi : (j : Nat) = i) (hn : i < nL) (h2 : (i, Value.null) :: lv.filter (fun q => !(q.1 == i) && !(q.1 + 1 == i && q.2.category == 2)) = lv2) (kk : gW p l e R s m args below meth c k nL rd A H0 Q L cells slots f (pc + 1) lv2 rest) : gW p l e R s m args below meth c k nL rd A H0 Q L cells slots f pc lv (.null :: rest) := fun H locs ls hP hS hr hl => lv_astore_nN C.1 C.2.1 hdg hi hl hn h2 (fun ls2 hl2 => kk H locs ls2 hP hS hr hl2)
end
def rsV (q0 : PS) (sl : Int32) : Int32 := if sl < 0 then -2 else if sl < 2 then (match pSlot q0 (cl sl) with | none => -5 | some w => vX1_record (pwNow (wX1_prepare q0) (wX5_copyFrom q0.1 w)) (vX5_potsSoFar (wX5_copyFrom q0.1 w))) else -2
def rsW (q0 : PS) (sl : Int32) : PS := if sl < 0 then q0 else if sl < 2 then (match pSlot q0 (cl sl) with | none => q0 | some w => wX1_record (pwNow (wX1_prepare q0) (wX5_copyFrom q0.1 w)) (vX5_potsSoFar (wX5_copyFrom q0.1 w))) else q0
theorem in_X6_restore_6 : ∀ w ∈ u_ws RX6 TX6 4, w ∈ wsX6_restore := by decide +kernel
theorem fl_X6_restore_23 : Cond.fieldLink RX6 23 (TX6 2).1 (TX6 2).2.1 (TX6 2).2.2.1 ∈ wsX6_restore := by decide +kernel
theorem fl_X6_restore_19 : Cond.fieldLink RX6 19 (TX6 1).1 (TX6 1).2.1 (TX6 1).2.2.1 ∈ wsX6_restore := by decide +kernel
theorem fl_X6_restore_12 : Cond.fieldLink RX6 12 (TX6 0).1 (TX6 0).2.1 (TX6 0).2.2.1 ∈ wsX6_restore := by decide +kernel
abbrev rmX6_restore : Room := { frames := 5, cells := 0, slots := 0, locals := 125 }
set_option maxHeartbeats 4000000 in
set_option maxRecDepth 100000 in
theorem k_X6_restore (l : Launch) {k : gK} {L : List Nat} {f : Nat → va_E} (hL : L.Nodup) {A : Nat → Nat} {q0 : PS} (hP : isPN k L f A q0) (hH : pHK q0) (sl : Int32) : kM l k L f yX6_restore wsX6_restore rmX6_restore [.ref (A 0), .int sl] (pP k L A (some (.int (rsV q0 sl))) (rsW q0 sl)) := by
  refine kM_of (cc := cX6_restore) (maxL := 3) (ret := (some .int)) (by decide) rfl (Nat.le_of_ble_eq_true rfl) ?_
  intro p e s m args below meth c C hr
  have hD : gD (fun q => q ∈ L) L := ⟨hL, fun _ h => h⟩
  refine gx_lv [(0, _), (1, _)] [0, 1] rfl ?_
  refine gx_iload_n (q := 1) C dX6_restore_0 rfl ?_
  refine gx_if_lt (tgt := 13) C dX6_restore_1 (by decide) (fun c_1 => ?_) (fun c_1 => ?_)
  · skip
    refine gx_bipush (v := (-2)) C dX6_restore_13 (by decide) ?_
    exact gx_iretP C hr hP dX6_restore_15 (if_pos c_1).symm (if_pos c_1).symm
  · skip
    obtain ⟨j, hj, hsl⟩ := nI_of c_1
    refine gx_iload_n (q := 1) C dX6_restore_4 rfl ?_
    obtain ⟨gg, hg1, hg2⟩ := hP.2.2.2.2.2.1
    refine gx_aload_n (q := 0) C dX6_restore_5 rfl ?_
    refine gx_get C (i := 2) (isPN_in hP 0 (by decide)) (isPN_0 hP) rfl in_X6_restore_6 (by decide) fl_X6_restore_23 rfl dX6_restore_6 ?_
    refine gx_alenW C (isPN_in hP 3 (by decide)) hg1 dX6_restore_9 ?_
    refine gx_icmp_lt (tgt := 16) C dX6_restore_10 (by decide) (fun c_10 => ?_) (fun c_10 => ?_)
    · skip
      have hj2 : j < 2 := (nI_ltI hj (by decide)).mp (by rw [← hsl]; exact c_10)
      have hc2 : cl sl < 2 := by rw [hsl, cl, nI_clamp hj]; exact hj2
      refine gx_aload_n (q := 0) C dX6_restore_16 rfl ?_
      refine gx_get C (i := 2) (isPN_in hP 0 (by decide)) (isPN_0 hP) rfl in_X6_restore_6 (by decide) fl_X6_restore_23 rfl dX6_restore_17 ?_
      refine gx_iload_n (q := 1) C dX6_restore_20 rfl ?_
      refine gx_aald C (isPN_in hP 3 (by decide)) hg1 (by rw [hsl]; exact vp_in_nI hj2 (by decide)) dX6_restore_21 ?_
      rcases hs : pSlot q0 (cl sl) with _ | w2
      · skip
        refine gx_topv .null (by rw [hg2 _ hc2, hs]; rfl) ?_
        refine gx_astore_nN C (i := 2) [(2, _), (0, _), (1, _)] dX6_restore_22 rfl (by decide) rfl ?_
        refine gx_aload_nN (q := 0) C dX6_restore_23 rfl ?_
        refine gx_ifnonnullN C dX6_restore_24 ?_
        refine gx_bipush (v := (-5)) C dX6_restore_27 (by decide) ?_
        exact gx_iretP C hr hP dX6_restore_29 ((if_neg c_1).trans ((if_pos c_10).trans (by rw [hs] <;> rfl))).symm ((if_neg c_1).trans ((if_pos c_10).trans (by rw [hs] <;> rfl))).symm
      · skip
        refine gx_topv (.ref (A (222 + 27 * cl sl))) (by rw [hg2 _ hc2, hs]; rfl) ?_
        refine gx_astore_n C (i := 2) [(2, _), (0, _), (1, _)] dX6_restore_22 rfl (by decide) rfl ?_
        refine gx_aload_n (q := 0) C dX6_restore_23 rfl ?_
        refine gx_ifnonnull (tgt := 30) C dX6_restore_24 (by decide) ?_
        refine gx_aload_n (q := 1) C dX6_restore_30 rfl ?_
        refine gx_get C (i := 1) (isPN_in hP 0 (by decide)) (isPN_0 hP) rfl in_X6_restore_6 (by decide) fl_X6_restore_19 rfl dX6_restore_31 ?_
        refine gx_aload_n (q := 1) C dX6_restore_34 rfl ?_
        refine gx_get C (i := 0) (isPN_in hP 0 (by decide)) (isPN_0 hP) rfl in_X6_restore_6 (by decide) fl_X6_restore_12 rfl dX6_restore_35 ?_
        refine gx_callPv C hD (k_X1_prepare l hL hP hH) (isPN_in hP 1 (by decide)) (isPN_1 hP) rfl (cwV 1 C.2.2.2.2.1 gX6_restore_X1_prepare rfl rfl rfl kdV_X1_prepare ⟨Nat.le_of_ble_eq_true rfl, Nat.le_of_ble_eq_true rfl⟩) rfl rfl (Nat.le_of_ble_eq_true rfl) ⟨Nat.le_of_ble_eq_true rfl, Nat.le_of_ble_eq_true rfl⟩ dX6_restore_38 (fun f_1 hP_1 => ?_)
        refine gx_aload_n (q := 1) C dX6_restore_41 rfl ?_
        refine gx_get C (i := 0) (isPN_in hP_1 0 (by decide)) (isPN_0 hP_1) rfl in_X6_restore_6 (by decide) fl_X6_restore_12 rfl dX6_restore_42 ?_
        refine gx_aload_n (q := 0) C dX6_restore_45 rfl ?_
        refine gx_callNv C hD hP_1 (k_X5_copyFrom l hL (isPN_now hP_1) (isPN_slot hP_1 (cl sl) (by omega) hs) (fun i j hi hj e => by have := (hP_1).2.1 ((222 + 27 * (cl sl)) + i) (6 + j) (pvl_s (by omega) (by omega) (fun z => by have z2 := (hs).symm.trans z; cases z2)) (Or.inl (by omega)) e; omega)) (isPN_in hP_1 6 (by decide)) (isPN_now0 hP_1) rfl (cwV 1 C.2.2.2.2.1 gX6_restore_X5_copyFrom rfl rfl rfl kdV_X5_copyFrom ⟨Nat.le_of_ble_eq_true rfl, Nat.le_of_ble_eq_true rfl⟩) rfl rfl (Nat.le_of_ble_eq_true rfl) ⟨Nat.le_of_ble_eq_true rfl, Nat.le_of_ble_eq_true rfl⟩ dX6_restore_46 (fun f_2 hP_2 => ?_)
        refine gx_aload_n (q := 1) C dX6_restore_49 rfl ?_
        refine gx_get C (i := 1) (isPN_in hP_2 0 (by decide)) (isPN_0 hP_2) rfl in_X6_restore_6 (by decide) fl_X6_restore_19 rfl dX6_restore_50 ?_
        refine gx_aload_n (q := 1) C dX6_restore_53 rfl ?_
        refine gx_get C (i := 0) (isPN_in hP_2 0 (by decide)) (isPN_0 hP_2) rfl in_X6_restore_6 (by decide) fl_X6_restore_12 rfl dX6_restore_54 ?_
        refine gx_callR C (k_X5_potsSoFar l (isPN_now hP_2) ) (isPN_in hP_2 6 (by decide)) (isPN_now0 hP_2) rfl (cwV 0 C.2.2.2.2.1 gX6_restore_X5_potsSoFar rfl rfl rfl kdV_X5_potsSoFar ⟨Nat.le_of_ble_eq_true rfl, Nat.le_of_ble_eq_true rfl⟩) rfl rfl (Nat.le_of_ble_eq_true rfl) ⟨Nat.le_of_ble_eq_true rfl, Nat.le_of_ble_eq_true rfl⟩ dX6_restore_57 ?_
        refine gx_callPi C hD (k_X1_record l hL hP_2 _) (isPN_in hP_2 1 (by decide)) (isPN_1 hP_2) rfl (cwV 1 C.2.2.2.2.1 gX6_restore_X1_record rfl rfl rfl kdV_X1_record ⟨Nat.le_of_ble_eq_true rfl, Nat.le_of_ble_eq_true rfl⟩) rfl rfl (Nat.le_of_ble_eq_true rfl) ⟨Nat.le_of_ble_eq_true rfl, Nat.le_of_ble_eq_true rfl⟩ dX6_restore_60 (fun f_3 hP_3 => ?_)
        exact gx_iretP C hr hP_3 dX6_restore_63 ((if_neg c_1).trans ((if_pos c_10).trans (by rw [hs] <;> rfl))).symm ((if_neg c_1).trans ((if_pos c_10).trans (by rw [hs] <;> rfl))).symm
    · skip
      refine gx_bipush (v := (-2)) C dX6_restore_13 (by decide) ?_
      exact gx_iretP C hr hP dX6_restore_15 ((if_neg c_1).trans (if_neg c_10)).symm ((if_neg c_1).trans (if_neg c_10)).symm
theorem kdN_X6_fault : yX6_fault.cls ≠ "java/lang/invoke/MethodHandle" ∧ yX6_fault.cls ≠ "java/lang/invoke/VarHandle" ∧ (parseMethodDescriptor yX6_fault.desc).map (fun d => d.parameters.length) = some 0 := by decide +kernel
theorem kdV_X6_fault : yX6_fault.cls = RX6 ∧ yX6_fault.cls ≠ "java/lang/invoke/MethodHandle" ∧ yX6_fault.cls ≠ "java/lang/invoke/VarHandle" ∧ (parseMethodDescriptor yX6_fault.desc).map (fun d => d.parameters.length) = some 0 := ⟨rfl, kdN_X6_fault⟩
theorem in_X6_fault_6 : ∀ w ∈ u_ws RX6 TX6 4, w ∈ wsX6_fault := by decide +kernel
theorem fl_X6_fault_30 : Cond.fieldLink RX6 30 (TX6 3).1 (TX6 3).2.1 (TX6 3).2.2.1 ∈ wsX6_fault := by decide +kernel
abbrev rmX6_fault : Room := { frames := 6, cells := 0, slots := 0, locals := 127 }
set_option maxHeartbeats 4000000 in
set_option maxRecDepth 100000 in
theorem k_X6_fault (l : Launch) {k : gK} {L : List Nat} {f : Nat → va_E} (hL : L.Nodup) {A : Nat → Nat} {q0 : PS} (hP : isPN k L f A q0) {n : Nat} (hn : (pPad q0).2 0 = nI n) (hn2 : n ≤ 80)  : kM l k L f yX6_fault wsX6_fault rmX6_fault [.ref (A 0)] (fun v2 f2 => v2 = some (.int (flt ((pPad q0).1 0) n 80 0)) ∧ ∃ pd, padEq (pPad q0) pd ∧ isPN k L f2 A (pwPad q0 pd)) := by
  refine kM_of (cc := cX6_fault) (maxL := 1) (ret := (some .int)) (by decide) rfl (Nat.le_of_ble_eq_true rfl) ?_
  intro p e s m args below meth c C hr
  have hD : gD (fun q => q ∈ L) L := ⟨hL, fun _ h => h⟩
  refine gx_lv [(0, _)] [0] rfl ?_
  refine gx_aload_n (q := 0) C dX6_fault_0 rfl ?_
  refine gx_get C (i := 3) (isPN_in hP 0 (by decide)) (isPN_0 hP) rfl in_X6_fault_6 (by decide) fl_X6_fault_30 rfl dX6_fault_1 ?_
  refine gx_callM C hD (k_X2_findFault l hL (isPN_pad hP) hn hn2) (isPN_in hP 4 (by decide)) (isPN_pad0 hP) rfl (cwV 0 C.2.2.2.2.1 gX6_fault_X2_findFault rfl rfl rfl kdV_X2_findFault ⟨Nat.le_of_ble_eq_true rfl, Nat.le_of_ble_eq_true rfl⟩) rfl rfl (Nat.le_of_ble_eq_true rfl) ⟨Nat.le_of_ble_eq_true rfl, Nat.le_of_ble_eq_true rfl⟩ dX6_fault_4 (fun v_1 f_1 hp_1 => ?_)
  obtain ⟨rfl, ⟨e1, e2⟩, hpe, hW_1, hG_1⟩ := hp_1
  have hpe1 : e1 = (pPad q0).1 := hpe.1
  subst hpe1
  have hpe2 : e2 0 = nI n := hpe.2.trans hn
  have hP_1 := isPN_upad hP hW_1 hG_1
  refine gx_cons ?_
  exact gx_iretM C hr dX6_fault_7 ⟨rfl, ((pPad q0).1, e2), ⟨rfl, hpe.2⟩, hP_1⟩
theorem kdN_X6_carryOut : yX6_carryOut.cls ≠ "java/lang/invoke/MethodHandle" ∧ yX6_carryOut.cls ≠ "java/lang/invoke/VarHandle" ∧ (parseMethodDescriptor yX6_carryOut.desc).map (fun d => d.parameters.length) = some 0 := by decide +kernel
theorem kdV_X6_carryOut : yX6_carryOut.cls = RX6 ∧ yX6_carryOut.cls ≠ "java/lang/invoke/MethodHandle" ∧ yX6_carryOut.cls ≠ "java/lang/invoke/VarHandle" ∧ (parseMethodDescriptor yX6_carryOut.desc).map (fun d => d.parameters.length) = some 0 := ⟨rfl, kdN_X6_carryOut⟩
theorem isPN_eq {k : gK} {L : List Nat} {f : Nat → va_E} {A : Nat → Nat} {q q2 : PS} (h : isPN k L f A q) (e : q2 = q) : isPN k L f A q2 := e ▸ h
theorem coEx {k : gK} {L : List Nat} {f : Nat → va_E} {A : Nat → Nat} {q x : PS} (h : isPN k L f A q) (he : padEq (pPad x) (pPad q)) (e : pwPad x (pPad q) = q) : ∃ pd, padEq (pPad x) pd ∧ isPN k L f A (pwPad x pd) := ⟨pPad q, he, by rw [e]; exact h⟩
theorem coF {q : PS} {x y : DS} {m : Int32} : pwPad (wX1_record (pwPad q x) m) (pPad (wX1_record (pwPad q y) m)) = wX1_record (pwPad q y) m := by
  unfold wX1_record
  split <;> rfl
theorem coG {q : PS} {x y : DS} {m : Int32} (h : padEq x y) : padEq (pPad (wX1_record (pwPad q x) m)) (pPad (wX1_record (pwPad q y) m)) := by
  unfold wX1_record
  split <;> exact h
theorem padEq_pw {q q2 : PS} {pd : DS} (e : q2 = q) (h : padEq (pPad q) pd) : padEq (pPad q2) pd := e ▸ h
/-- the orders from a place on: how many are carried out, and the workshop behind them -/
def cO (g : Nat → Int32) (n : Nat) : Nat → WS → Nat → Nat × WS
  | 0, w, _ => (0, w)
  | k + 1, w, p => if (ordr g n p).1 = true then (if vX6_carryOutOrder w (sg g n p) (ordr g n p).2.2.1 (ordr g n p).2.2.2.1 (ordr g n p).2.2.2.2 < 0 then (0, wX6_carryOutOrder w (sg g n p) (ordr g n p).2.2.1 (ordr g n p).2.2.2.1 (ordr g n p).2.2.2.2) else ((cO g n k (wX6_carryOutOrder w (sg g n p) (ordr g n p).2.2.1 (ordr g n p).2.2.2.1 (ordr g n p).2.2.2.2) (if sg g n (ordr g n p).2.1 = 59 then (ordr g n p).2.1 + 1 else (ordr g n p).2.1)).1 + 1, (cO g n k (wX6_carryOutOrder w (sg g n p) (ordr g n p).2.2.1 (ordr g n p).2.2.2.1 (ordr g n p).2.2.2.2) (if sg g n (ordr g n p).2.1 = 59 then (ordr g n p).2.1 + 1 else (ordr g n p).2.1)).2)) else (0, w)
def coQ (q0 : PS) (n : Nat) : PS := pwPad (pwNow (wX1_prepare q0) (cO ((pPad q0).1 0) n 80 q0.1 0).2) (dSc (pPad q0) 0 0)
def coN (q0 : PS) (n : Nat) : Int32 := nI (cO ((pPad q0).1 0) n 80 q0.1 0).1
def vCO (q0 : PS) (n : Nat) : Int32 := if flt ((pPad q0).1 0) n 80 0 = -6 then vX1_record (coQ q0 n) (coN q0 n) else -3
def wCO (q0 : PS) (n : Nat) : PS := if flt ((pPad q0).1 0) n 80 0 = -6 then wX1_record (coQ q0 n) (coN q0 n) else q0
theorem coV {q0 : PS} {n i : Nat} (h : flt ((pPad q0).1 0) n 80 0 = -6) (h1 : (cO ((pPad q0).1 0) n 80 q0.1 0).1 = i) : vCO q0 n = vX1_record (coQ q0 n) (nI i) := by rw [← h1]; exact if_pos h
theorem coW {q0 : PS} {n i : Nat} {w : WS} (h : flt ((pPad q0).1 0) n 80 0 = -6) (h1 : (cO ((pPad q0).1 0) n 80 q0.1 0).1 = i) (h2 : (cO ((pPad q0).1 0) n 80 q0.1 0).2 = w) : wCO q0 n = wX1_record (pwPad (pwNow (wX1_prepare q0) w) (dSc (pPad q0) 0 0)) (nI i) := by rw [← h1, ← h2]; exact if_pos h
theorem in_X6_carryOut_6 : ∀ w ∈ u_ws RX6 TX6 4, w ∈ wsX6_carryOut := by decide +kernel
theorem fl_X6_carryOut_30 : Cond.fieldLink RX6 30 (TX6 3).1 (TX6 3).2.1 (TX6 3).2.2.1 ∈ wsX6_carryOut := by decide +kernel
theorem fl_X6_carryOut_19 : Cond.fieldLink RX6 19 (TX6 1).1 (TX6 1).2.1 (TX6 1).2.2.1 ∈ wsX6_carryOut := by decide +kernel
theorem fl_X6_carryOut_12 : Cond.fieldLink RX6 12 (TX6 0).1 (TX6 0).2.1 (TX6 0).2.2.1 ∈ wsX6_carryOut := by decide +kernel
abbrev rmX6_carryOut : Room := { frames := 6, cells := 0, slots := 0, locals := 135 }
set_option maxHeartbeats 4000000 in
set_option maxRecDepth 100000 in
theorem k_X6_carryOut (l : Launch) {k : gK} {L : List Nat} {f : Nat → va_E} (hL : L.Nodup) {A : Nat → Nat} {q0 : PS} (hP : isPN k L f A q0) {n : Nat} (hn : (pPad q0).2 0 = nI n) (hn2 : n ≤ 80) (hH : pHK q0)  {I : WS → Prop} (hI : ∀ w, I w → wOK w) (hS : ∀ w kd a b c, I w → I (wX6_carryOutOrder w kd a b c)) (h0 : I q0.1) : kM l k L f yX6_carryOut wsX6_carryOut rmX6_carryOut [.ref (A 0)] (fun v2 f2 => v2 = some (.int (vCO q0 n)) ∧ ∃ pd, padEq (pPad (wCO q0 n)) pd ∧ isPN k L f2 A (pwPad (wCO q0 n) pd)) := by
  refine kM_of (cc := cX6_carryOut) (maxL := 2) (ret := (some .int)) (by decide) rfl (Nat.le_of_ble_eq_true rfl) ?_
  intro p e s m args below meth c C hr
  have hD : gD (fun q => q ∈ L) L := ⟨hL, fun _ h => h⟩
  refine gx_lv [(0, _)] [0] rfl ?_
  refine gx_aload_n (q := 0) C dX6_carryOut_0 rfl ?_
  refine gx_get C (i := 3) (isPN_in hP 0 (by decide)) (isPN_0 hP) rfl in_X6_carryOut_6 (by decide) fl_X6_carryOut_30 rfl dX6_carryOut_1 ?_
  refine gx_callM C hD (k_X2_findFault l hL (isPN_pad hP) hn hn2) (isPN_in hP 4 (by decide)) (isPN_pad0 hP) rfl (cwV 0 C.2.2.2.2.1 gX6_carryOut_X2_findFault rfl rfl rfl kdV_X2_findFault ⟨Nat.le_of_ble_eq_true rfl, Nat.le_of_ble_eq_true rfl⟩) rfl rfl (Nat.le_of_ble_eq_true rfl) ⟨Nat.le_of_ble_eq_true rfl, Nat.le_of_ble_eq_true rfl⟩ dX6_carryOut_4 (fun v_1 f_1 hp_1 => ?_)
  obtain ⟨rfl, ⟨e1, e2⟩, hpe, hW_1, hG_1⟩ := hp_1
  have hpe1 : e1 = (pPad q0).1 := hpe.1
  subst hpe1
  have hpe2 : e2 0 = nI n := hpe.2.trans hn
  have hP_1 := isPN_upad hP hW_1 hG_1
  refine gx_cons ?_
  refine gx_bipush (v := (-6)) C dX6_carryOut_7 (by decide) ?_
  refine gx_icmp_eq (tgt := 15) C dX6_carryOut_9 (by decide) (fun c_9 => ?_) (fun c_9 => ?_)
  · skip
    have hc9 := c_9
    refine gx_aload_n (q := 0) C dX6_carryOut_15 rfl ?_
    refine gx_get C (i := 1) (isPN_in hP_1 0 (by decide)) (isPN_0 hP_1) rfl in_X6_carryOut_6 (by decide) fl_X6_carryOut_19 rfl dX6_carryOut_16 ?_
    refine gx_aload_n (q := 0) C dX6_carryOut_19 rfl ?_
    refine gx_get C (i := 0) (isPN_in hP_1 0 (by decide)) (isPN_0 hP_1) rfl in_X6_carryOut_6 (by decide) fl_X6_carryOut_12 rfl dX6_carryOut_20 ?_
    refine gx_callPv C hD (k_X1_prepare l hL hP_1 hH) (isPN_in hP_1 1 (by decide)) (isPN_1 hP_1) rfl (cwV 1 C.2.2.2.2.1 gX6_carryOut_X1_prepare rfl rfl rfl kdV_X1_prepare ⟨Nat.le_of_ble_eq_true rfl, Nat.le_of_ble_eq_true rfl⟩) rfl rfl (Nat.le_of_ble_eq_true rfl) ⟨Nat.le_of_ble_eq_true rfl, Nat.le_of_ble_eq_true rfl⟩ dX6_carryOut_23 (fun f_2 hP_2 => ?_)
    refine gx_iconst (v := 0) C dX6_carryOut_26 (by decide) ?_
    refine gx_istore_n C (i := 1) [(1, _), (0, _)] dX6_carryOut_27 rfl (by decide) rfl ?_
    refine gx_aload_n (q := 1) C dX6_carryOut_28 rfl ?_
    refine gx_get C (i := 3) (isPN_in hP_2 0 (by decide)) (isPN_0 hP_2) rfl in_X6_carryOut_6 (by decide) fl_X6_carryOut_30 rfl dX6_carryOut_29 ?_
    refine gx_callM C hD (k_X2_rewindC l hL (isPN_pad hP_2)) (isPN_in hP_2 4 (by decide)) (isPN_pad0 hP_2) rfl (cwV 0 C.2.2.2.2.1 gX6_carryOut_X2_rewind rfl rfl rfl kdV_X2_rewind ⟨Nat.le_of_ble_eq_true rfl, Nat.le_of_ble_eq_true rfl⟩) rfl rfl (Nat.le_of_ble_eq_true rfl) ⟨Nat.le_of_ble_eq_true rfl, Nat.le_of_ble_eq_true rfl⟩ dX6_carryOut_32 (fun v_3 f_3 hp_3 => ?_)
    obtain ⟨rfl, hW_3, hG_3⟩ := hp_3
    have hP_3 := isPN_upad hP_2 hW_3 hG_3
    refine gx_nil ?_
    have hP0 : isPN k L _ A (pwPad (pwNow (wX1_prepare q0) q0.1) (dC ((pPad q0).1, e2) 0 (e2 2) (e2 3) (e2 4) (e2 5))) := hP_3
    refine gx_loop (σ := Nat × Nat × WS × (Nat → va_E)) (fun z => z.2.2.2) (fun z => [(0, .ref (A 0)), (1, .int (nI z.1))]) (fun z => z.1 ≤ 80 ∧ z.2.1 ≤ n ∧ I z.2.2.1 ∧ (cO ((pPad q0).1 0) n (80 - z.1) z.2.2.1 z.2.1).1 + z.1 = (cO ((pPad q0).1 0) n 80 q0.1 0).1 ∧ (cO ((pPad q0).1 0) n (80 - z.1) z.2.2.1 z.2.1).2 = (cO ((pPad q0).1 0) n 80 q0.1 0).2 ∧ ∃ kd1 a1 b1 c1, isPN k L z.2.2.2 A (pwPad (pwNow (wX1_prepare q0) z.2.2.1) (dC ((pPad q0).1, e2) z.2.1 kd1 a1 b1 c1))) (fun z => 80 - z.1) (0, 0, q0.1, _) [1, 0] rfl rfl ?_ ?_
    · exact ⟨Nat.zero_le _, Nat.zero_le _, h0, rfl, rfl, _, _, _, _, hP0⟩
    intro ⟨i, p1, w1, fi⟩ ⟨hI1, hp1, hw1, hz1, hz2, kd1, a1, b1, c1, hPi⟩ ih
    try dsimp only at hI1 hp1 hw1 hz1 hz2 hPi ih ⊢
    refine gx_iload_n (q := 1) C dX6_carryOut_35 rfl ?_
    refine gx_bipush (v := 80) C dX6_carryOut_36 (by decide) ?_
    refine gx_icmp_ge (tgt := 74) C dX6_carryOut_38 (by decide) (fun c_38 => ?_) (fun c_38 => ?_)
    · skip
      have hb := (nI_leI (a := 80) (b := i) (by decide) (by omega)).mp c_38
      refine gx_aload_n (q := 0) C dX6_carryOut_74 rfl ?_
      refine gx_get C (i := 3) (isPN_in hPi 0 (by decide)) (isPN_0 hPi) rfl in_X6_carryOut_6 (by decide) fl_X6_carryOut_30 rfl dX6_carryOut_75 ?_
      refine gx_callTi C hD hPi (k_X2_clear l hL (isPN_pad hPi)) (isPN_in hPi 4 (by decide)) (isPN_pad0 hPi) rfl (cwV 0 C.2.2.2.2.1 gX6_carryOut_X2_clear rfl rfl rfl kdV_X2_clear ⟨Nat.le_of_ble_eq_true rfl, Nat.le_of_ble_eq_true rfl⟩) rfl rfl (Nat.le_of_ble_eq_true rfl) ⟨Nat.le_of_ble_eq_true rfl, Nat.le_of_ble_eq_true rfl⟩ dX6_carryOut_78 (fun f_4 hP_4 => ?_)
      refine gx_pop C rfl dX6_carryOut_81 ?_
      refine gx_aload_n (q := 0) C dX6_carryOut_82 rfl ?_
      refine gx_get C (i := 1) (isPN_in hP_4 0 (by decide)) (isPN_0 hP_4) rfl in_X6_carryOut_6 (by decide) fl_X6_carryOut_19 rfl dX6_carryOut_83 ?_
      refine gx_iload_n (q := 1) C dX6_carryOut_86 rfl ?_
      refine gx_callPi C hD (k_X1_record l hL hP_4 _) (isPN_in hP_4 1 (by decide)) (isPN_1 hP_4) rfl (cwV 1 C.2.2.2.2.1 gX6_carryOut_X1_record rfl rfl rfl kdV_X1_record ⟨Nat.le_of_ble_eq_true rfl, Nat.le_of_ble_eq_true rfl⟩) rfl rfl (Nat.le_of_ble_eq_true rfl) ⟨Nat.le_of_ble_eq_true rfl, Nat.le_of_ble_eq_true rfl⟩ dX6_carryOut_87 (fun f_5 hP_5 => ?_)
      rw [show 80 - i = 0 by omega] at hz1 hz2
      have hz1 := (Nat.zero_add i).symm.trans hz1
      have hz1 := hz1.symm
      have hz2 := hz2.symm
      exact gx_iretM C hr dX6_carryOut_90 ⟨by rw [coV hc9 hz1] <;> rfl, coEx hP_5 (by rw [coW hc9 hz1 hz2]; exact coG ⟨rfl, rfl⟩) (by rw [coW hc9 hz1 hz2]; exact coF)⟩
    · skip
      have hlt : i < 80 := Nat.lt_of_not_le (fun z => c_38 ((nI_leI (a := 80) (b := i) (by decide) (by omega)).mpr z))
      obtain ⟨r, hr3⟩ : ∃ r, 80 - i = r + 1 := ⟨79 - i, by omega⟩
      refine gx_aload_n (q := 0) C dX6_carryOut_41 rfl ?_
      refine gx_get C (i := 3) (isPN_in hPi 0 (by decide)) (isPN_0 hPi) rfl in_X6_carryOut_6 (by decide) fl_X6_carryOut_30 rfl dX6_carryOut_42 ?_
      refine gx_callM C hD (k_X2_readOrder l hL (isPN_pad hPi) hpe2 hn2 (by omega)) (isPN_in hPi 4 (by decide)) (isPN_pad0 hPi) rfl (cwV 0 C.2.2.2.2.1 gX6_carryOut_X2_readOrder rfl rfl rfl kdV_X2_readOrder ⟨Nat.le_of_ble_eq_true rfl, Nat.le_of_ble_eq_true rfl⟩) rfl rfl (Nat.le_of_ble_eq_true rfl) ⟨Nat.le_of_ble_eq_true rfl, Nat.le_of_ble_eq_true rfl⟩ dX6_carryOut_45 (fun v_6 f_6 hp_6 => ?_)
      rcases hp_6 with ⟨hc_6, rfl, hW_6, hG_6⟩ | ⟨hc_6, rfl, kd_6, a_6, b_6, c_6, hW_6, hG_6⟩
      · skip
        have hq_6 : (ordr ((pPad q0).1 0) n p1).1 = true := hc_6
        have hP_6 := isPN_upad hPi hW_6 hG_6
        refine gx_cons ?_
        have hob := ordr_b _ _ _ hq_6
        refine gx_if_eq (tgt := 74) C dX6_carryOut_48 (by decide) (fun c_48 => ?_) (fun c_48 => ?_)
        exact absurd c_48 (by decide)
        refine gx_aload_n (q := 0) C dX6_carryOut_51 rfl ?_
        refine gx_callPi C hD (k_X6_carryOutOrder l hL hP_6 (hI _ hw1) (kd := (sg ((pPad q0).1 0) n p1)) (a0 := (ordr ((pPad q0).1 0) n p1).2.2.1) (b0 := (ordr ((pPad q0).1 0) n p1).2.2.2.1) (c0 := (ordr ((pPad q0).1 0) n p1).2.2.2.2) rfl rfl rfl rfl) (isPN_in hP_6 0 (by decide)) (isPN_0 hP_6) rfl (cwV 0 C.2.2.2.2.1 gX6_carryOut_X6_carryOutOrder rfl rfl rfl kdV_X6_carryOutOrder ⟨Nat.le_of_ble_eq_true rfl, Nat.le_of_ble_eq_true rfl⟩) rfl rfl (Nat.le_of_ble_eq_true rfl) ⟨Nat.le_of_ble_eq_true rfl, Nat.le_of_ble_eq_true rfl⟩ dX6_carryOut_52 (fun f_7 hP_7 => ?_)
        refine gx_if_lt (tgt := 74) C dX6_carryOut_55 (by decide) (fun c_55 => ?_) (fun c_55 => ?_)
        · skip
          refine gx_aload_n (q := 0) C dX6_carryOut_74 rfl ?_
          refine gx_get C (i := 3) (isPN_in hP_7 0 (by decide)) (isPN_0 hP_7) rfl in_X6_carryOut_6 (by decide) fl_X6_carryOut_30 rfl dX6_carryOut_75 ?_
          refine gx_callTi C hD hP_7 (k_X2_clear l hL (isPN_pad hP_7)) (isPN_in hP_7 4 (by decide)) (isPN_pad0 hP_7) rfl (cwV 0 C.2.2.2.2.1 gX6_carryOut_X2_clear rfl rfl rfl kdV_X2_clear ⟨Nat.le_of_ble_eq_true rfl, Nat.le_of_ble_eq_true rfl⟩) rfl rfl (Nat.le_of_ble_eq_true rfl) ⟨Nat.le_of_ble_eq_true rfl, Nat.le_of_ble_eq_true rfl⟩ dX6_carryOut_78 (fun f_8 hP_8 => ?_)
          refine gx_pop C rfl dX6_carryOut_81 ?_
          refine gx_aload_n (q := 0) C dX6_carryOut_82 rfl ?_
          refine gx_get C (i := 1) (isPN_in hP_8 0 (by decide)) (isPN_0 hP_8) rfl in_X6_carryOut_6 (by decide) fl_X6_carryOut_19 rfl dX6_carryOut_83 ?_
          refine gx_iload_n (q := 1) C dX6_carryOut_86 rfl ?_
          refine gx_callPi C hD (k_X1_record l hL hP_8 _) (isPN_in hP_8 1 (by decide)) (isPN_1 hP_8) rfl (cwV 1 C.2.2.2.2.1 gX6_carryOut_X1_record rfl rfl rfl kdV_X1_record ⟨Nat.le_of_ble_eq_true rfl, Nat.le_of_ble_eq_true rfl⟩) rfl rfl (Nat.le_of_ble_eq_true rfl) ⟨Nat.le_of_ble_eq_true rfl, Nat.le_of_ble_eq_true rfl⟩ dX6_carryOut_87 (fun f_9 hP_9 => ?_)
          rw [hr3, show cO ((pPad q0).1 0) n (r + 1) w1 p1 = (0, _) from (if_pos hq_6).trans (if_pos c_55)] at hz1 hz2
          have hz1 := (Nat.zero_add i).symm.trans hz1
          have hz1 := hz1.symm
          have hz2 := hz2.symm
          exact gx_iretM C hr dX6_carryOut_90 ⟨by rw [coV hc9 hz1] <;> rfl, coEx hP_9 (by rw [coW hc9 hz1 hz2]; exact coG ⟨rfl, rfl⟩) (by rw [coW hc9 hz1 hz2]; exact coF)⟩
        · skip
          refine gx_iinc C (q := 1) (v := nI (i + 1)) [(1, _), (0, _)] dX6_carryOut_58 rfl (nI_inc i) (by decide) rfl ?_
          refine gx_aload_n (q := 1) C dX6_carryOut_61 rfl ?_
          refine gx_get C (i := 3) (isPN_in hP_7 0 (by decide)) (isPN_0 hP_7) rfl in_X6_carryOut_6 (by decide) fl_X6_carryOut_30 rfl dX6_carryOut_62 ?_
          refine gx_bipush (v := 59) C dX6_carryOut_65 (by decide) ?_
          refine gx_callM C hD (k_X2_skip l hL (isPN_pad hP_7) hpe2 hn2 (show (ordr ((pPad q0).1 0) n p1).2.1 ≤ 100 by omega) _) (isPN_in hP_7 4 (by decide)) (isPN_pad0 hP_7) rfl (cwV 1 C.2.2.2.2.1 gX6_carryOut_X2_skip rfl rfl rfl kdV_X2_skip ⟨Nat.le_of_ble_eq_true rfl, Nat.le_of_ble_eq_true rfl⟩) rfl rfl (Nat.le_of_ble_eq_true rfl) ⟨Nat.le_of_ble_eq_true rfl, Nat.le_of_ble_eq_true rfl⟩ dX6_carryOut_67 (fun v_10 f_10 hp_10 => ?_)
          rcases hp_10 with ⟨hc_10, rfl, hW_10, hG_10⟩ | ⟨hc_10, rfl, hW_10, hG_10⟩
          · skip
            have hq_10 : sg ((pPad q0).1 0) n (ordr ((pPad q0).1 0) n p1).2.1 = 59 := hc_10
            have hP_10 := isPN_upad hP_7 hW_10 hG_10
            refine gx_cons ?_
            refine gx_pop C rfl dX6_carryOut_70 ?_
            refine gx_goto (tgt := 35) C dX6_carryOut_71 (by decide) ?_
            have hst : cO ((pPad q0).1 0) n (r + 1) w1 p1 = _ := (if_pos hq_6).trans (if_neg c_55)
            rw [hr3, hst] at hz1 hz2
            rw [if_pos hq_10] at hz1 hz2
            have hz3 := sg_ne hq_10 (by decide)
            exact gx_back [1, 0] (ih (i + 1, (ordr ((pPad q0).1 0) n p1).2.1 + 1, _, _) ⟨by show i + 1 ≤ 80; omega, by show (ordr ((pPad q0).1 0) n p1).2.1 + 1 ≤ n; omega, hS _ _ _ _ _ hw1, by show (cO _ _ (80 - (i + 1)) _ _).1 + (i + 1) = _; rw [show 80 - (i + 1) = r by omega, ← hz1]; exact (by omega : ∀ x : Nat, x + (i + 1) = x + 1 + i) _, by show (cO _ _ (80 - (i + 1)) _ _).2 = _; rw [show 80 - (i + 1) = r by omega]; exact hz2, _, _, _, _, hP_10⟩ (by show 80 - (i + 1) < 80 - i; omega)) rfl rfl
          · skip
            have hq_10 : ¬ sg ((pPad q0).1 0) n (ordr ((pPad q0).1 0) n p1).2.1 = 59 := hc_10
            have hP_10 := isPN_upad hP_7 hW_10 hG_10
            refine gx_cons ?_
            refine gx_pop C rfl dX6_carryOut_70 ?_
            refine gx_goto (tgt := 35) C dX6_carryOut_71 (by decide) ?_
            have hst : cO ((pPad q0).1 0) n (r + 1) w1 p1 = _ := (if_pos hq_6).trans (if_neg c_55)
            rw [hr3, hst] at hz1 hz2
            rw [if_neg hq_10] at hz1 hz2
            exact gx_back [1, 0] (ih (i + 1, (ordr ((pPad q0).1 0) n p1).2.1, _, _) ⟨by show i + 1 ≤ 80; omega, by show (ordr ((pPad q0).1 0) n p1).2.1 ≤ n; omega, hS _ _ _ _ _ hw1, by show (cO _ _ (80 - (i + 1)) _ _).1 + (i + 1) = _; rw [show 80 - (i + 1) = r by omega, ← hz1]; exact (by omega : ∀ x : Nat, x + (i + 1) = x + 1 + i) _, by show (cO _ _ (80 - (i + 1)) _ _).2 = _; rw [show 80 - (i + 1) = r by omega]; exact hz2, _, _, _, _, hP_10⟩ (by show 80 - (i + 1) < 80 - i; omega)) rfl rfl
      · skip
        have hq_6 : (ordr ((pPad q0).1 0) n p1).1 = false := hc_6
        have hP_6 := isPN_upad hPi hW_6 hG_6
        refine gx_cons ?_
        refine gx_if_eq (tgt := 74) C dX6_carryOut_48 (by decide) (fun c_48 => ?_) (fun c_48 => ?_)
        refine gx_aload_n (q := 0) C dX6_carryOut_74 rfl ?_
        refine gx_get C (i := 3) (isPN_in hP_6 0 (by decide)) (isPN_0 hP_6) rfl in_X6_carryOut_6 (by decide) fl_X6_carryOut_30 rfl dX6_carryOut_75 ?_
        refine gx_callTi C hD hP_6 (k_X2_clear l hL (isPN_pad hP_6)) (isPN_in hP_6 4 (by decide)) (isPN_pad0 hP_6) rfl (cwV 0 C.2.2.2.2.1 gX6_carryOut_X2_clear rfl rfl rfl kdV_X2_clear ⟨Nat.le_of_ble_eq_true rfl, Nat.le_of_ble_eq_true rfl⟩) rfl rfl (Nat.le_of_ble_eq_true rfl) ⟨Nat.le_of_ble_eq_true rfl, Nat.le_of_ble_eq_true rfl⟩ dX6_carryOut_78 (fun f_11 hP_11 => ?_)
        refine gx_pop C rfl dX6_carryOut_81 ?_
        refine gx_aload_n (q := 0) C dX6_carryOut_82 rfl ?_
        refine gx_get C (i := 1) (isPN_in hP_11 0 (by decide)) (isPN_0 hP_11) rfl in_X6_carryOut_6 (by decide) fl_X6_carryOut_19 rfl dX6_carryOut_83 ?_
        refine gx_iload_n (q := 1) C dX6_carryOut_86 rfl ?_
        refine gx_callPi C hD (k_X1_record l hL hP_11 _) (isPN_in hP_11 1 (by decide)) (isPN_1 hP_11) rfl (cwV 1 C.2.2.2.2.1 gX6_carryOut_X1_record rfl rfl rfl kdV_X1_record ⟨Nat.le_of_ble_eq_true rfl, Nat.le_of_ble_eq_true rfl⟩) rfl rfl (Nat.le_of_ble_eq_true rfl) ⟨Nat.le_of_ble_eq_true rfl, Nat.le_of_ble_eq_true rfl⟩ dX6_carryOut_87 (fun f_12 hP_12 => ?_)
        rw [hr3, show cO ((pPad q0).1 0) n (r + 1) w1 p1 = (0, w1) from if_neg (bF hq_6)] at hz1 hz2
        have hz1 := (Nat.zero_add i).symm.trans hz1
        have hz1 := hz1.symm
        have hz2 := hz2.symm
        exact gx_iretM C hr dX6_carryOut_90 ⟨by rw [coV hc9 hz1] <;> rfl, coEx hP_12 (by rw [coW hc9 hz1 hz2]; exact coG ⟨rfl, rfl⟩) (by rw [coW hc9 hz1 hz2]; exact coF)⟩
        exact absurd (by decide) c_48
  · skip
    refine gx_bipush (v := (-3)) C dX6_carryOut_12 (by decide) ?_
    exact gx_iretM C hr dX6_carryOut_14 ⟨by rw [show vCO q0 n = _ from if_neg c_9], _, padEq_pw (show wCO q0 n = q0 from if_neg c_9) hpe, isPN_eq hP_1 (show pwPad (wCO q0 n) _ = _ by rw [show wCO q0 n = q0 from if_neg c_9])⟩
