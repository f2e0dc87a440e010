theorem kdN_X6_set : yX6_set.cls ≠ "java/lang/invoke/MethodHandle" ∧ yX6_set.cls ≠ "java/lang/invoke/VarHandle" ∧ (parseMethodDescriptor yX6_set.desc).map (fun d => d.parameters.length) = some 2 := by decide +kernel
theorem kdV_X6_set : yX6_set.cls = RX6 ∧ yX6_set.cls ≠ "java/lang/invoke/MethodHandle" ∧ yX6_set.cls ≠ "java/lang/invoke/VarHandle" ∧ (parseMethodDescriptor yX6_set.desc).map (fun d => d.parameters.length) = some 2 := ⟨rfl, kdN_X6_set⟩
def vX6_set (q0 : PS) (st : Int32) (v : Int32) : Int32 := (vX1_record (pwNow (wX1_prepare q0 ) (wX5_changeSetting ((wX1_prepare q0 )).1 st v)) (vX5_changeSetting ((wX1_prepare q0 )).1 st v))
def wX6_set (q0 : PS) (st : Int32) (v : Int32) : PS := (wX1_record (pwNow (wX1_prepare q0 ) (wX5_changeSetting ((wX1_prepare q0 )).1 st v)) (vX5_changeSetting ((wX1_prepare q0 )).1 st v))
theorem in_X6_set_6 : ∀ w ∈ u_ws RX6 TX6 4, w ∈ wsX6_set := by decide +kernel
theorem fl_X6_set_19 : Cond.fieldLink RX6 19 (TX6 1).1 (TX6 1).2.1 (TX6 1).2.2.1 ∈ wsX6_set := by decide +kernel
theorem fl_X6_set_12 : Cond.fieldLink RX6 12 (TX6 0).1 (TX6 0).2.1 (TX6 0).2.2.1 ∈ wsX6_set := by decide +kernel
abbrev rmX6_set : Room := { frames := 5, cells := 0, slots := 0, locals := 125 }
set_option maxHeartbeats 4000000 in
set_option maxRecDepth 100000 in
theorem k_X6_set (l : Launch) {k : gK} {L : List Nat} {f : Nat → va_E} (hL : L.Nodup) {A : Nat → Nat} {q0 : PS} (hP : isPN k L f A q0) (hH : pHK q0) (hN : wOK q0.1) (st : Int32) (v : Int32) : kM l k L f yX6_set wsX6_set rmX6_set [.ref (A 0), .int st, .int v] (pP k L A (some (.int (vX6_set q0 st v))) (wX6_set q0 st v)) := by
  refine kM_of (cc := cX6_set) (maxL := 3) (ret := (some .int)) (by decide) rfl (Nat.le_of_ble_eq_true rfl) ?_
  intro p e s m args below meth c C hr
  have hD : gD (fun q => q ∈ L) L := ⟨hL, fun _ h => h⟩
  refine gx_lv [(0, _), (1, _), (2, _)] [0, 1, 2] rfl ?_
  refine gx_aload_n (q := 0) C dX6_set_0 rfl ?_
  refine gx_get C (i := 1) (isPN_in hP 0 (by decide)) (isPN_0 hP) rfl in_X6_set_6 (by decide) fl_X6_set_19 rfl dX6_set_1 ?_
  refine gx_aload_n (q := 0) C dX6_set_4 rfl ?_
  refine gx_get C (i := 0) (isPN_in hP 0 (by decide)) (isPN_0 hP) rfl in_X6_set_6 (by decide) fl_X6_set_12 rfl dX6_set_5 ?_
  refine gx_callPv C hD (k_X1_prepare l hL hP hH) (isPN_in hP 1 (by decide)) (isPN_1 hP) rfl (cwV 1 C.2.2.2.2.1 gX6_set_X1_prepare rfl rfl rfl kdV_X1_prepare ⟨Nat.le_of_ble_eq_true rfl, Nat.le_of_ble_eq_true rfl⟩) rfl rfl (Nat.le_of_ble_eq_true rfl) ⟨Nat.le_of_ble_eq_true rfl, Nat.le_of_ble_eq_true rfl⟩ dX6_set_8 (fun f_1 hP_1 => ?_)
  refine gx_aload_n (q := 0) C dX6_set_11 rfl ?_
  refine gx_get C (i := 1) (isPN_in hP_1 0 (by decide)) (isPN_0 hP_1) rfl in_X6_set_6 (by decide) fl_X6_set_19 rfl dX6_set_12 ?_
  refine gx_aload_n (q := 0) C dX6_set_15 rfl ?_
  refine gx_get C (i := 0) (isPN_in hP_1 0 (by decide)) (isPN_0 hP_1) rfl in_X6_set_6 (by decide) fl_X6_set_12 rfl dX6_set_16 ?_
  refine gx_iload_n (q := 1) C dX6_set_19 rfl ?_
  refine gx_iload_n (q := 2) C dX6_set_20 rfl ?_
  refine gx_callNi C hD hP_1 (k_X5_changeSetting l hL (isPN_now hP_1) _ _) (isPN_in hP_1 6 (by decide)) (isPN_now0 hP_1) rfl (cwV 2 C.2.2.2.2.1 gX6_set_X5_changeSetting rfl rfl rfl kdV_X5_changeSetting ⟨Nat.le_of_ble_eq_true rfl, Nat.le_of_ble_eq_true rfl⟩) rfl rfl (Nat.le_of_ble_eq_true rfl) ⟨Nat.le_of_ble_eq_true rfl, Nat.le_of_ble_eq_true rfl⟩ dX6_set_21 (fun f_2 hP_2 => ?_)
  refine gx_callPi C hD (k_X1_record l hL hP_2 _) (isPN_in hP_2 1 (by decide)) (isPN_1 hP_2) rfl (cwV 1 C.2.2.2.2.1 gX6_set_X1_record rfl rfl rfl kdV_X1_record ⟨Nat.le_of_ble_eq_true rfl, Nat.le_of_ble_eq_true rfl⟩) rfl rfl (Nat.le_of_ble_eq_true rfl) ⟨Nat.le_of_ble_eq_true rfl, Nat.le_of_ble_eq_true rfl⟩ dX6_set_24 (fun f_3 hP_3 => ?_)
  exact gx_iretP C hr hP_3 dX6_set_27 (rfl).symm (rfl).symm
theorem kdN_X6_pupil : yX6_pupil.cls ≠ "java/lang/invoke/MethodHandle" ∧ yX6_pupil.cls ≠ "java/lang/invoke/VarHandle" ∧ (parseMethodDescriptor yX6_pupil.desc).map (fun d => d.parameters.length) = some 0 := by decide +kernel
theorem kdV_X6_pupil : yX6_pupil.cls = RX6 ∧ yX6_pupil.cls ≠ "java/lang/invoke/MethodHandle" ∧ yX6_pupil.cls ≠ "java/lang/invoke/VarHandle" ∧ (parseMethodDescriptor yX6_pupil.desc).map (fun d => d.parameters.length) = some 0 := ⟨rfl, kdN_X6_pupil⟩
def vX6_pupil (q0 : PS)  : Int32 := (vX1_record (pwNow (wX1_prepare q0 ) (wX5_admitPupil ((wX1_prepare q0 )).1 )) (vX5_admitPupil ((wX1_prepare q0 )).1 ))
def wX6_pupil (q0 : PS)  : PS := (wX1_record (pwNow (wX1_prepare q0 ) (wX5_admitPupil ((wX1_prepare q0 )).1 )) (vX5_admitPupil ((wX1_prepare q0 )).1 ))
theorem in_X6_pupil_6 : ∀ w ∈ u_ws RX6 TX6 4, w ∈ wsX6_pupil := by decide +kernel
theorem fl_X6_pupil_19 : Cond.fieldLink RX6 19 (TX6 1).1 (TX6 1).2.1 (TX6 1).2.2.1 ∈ wsX6_pupil := by decide +kernel
theorem fl_X6_pupil_12 : Cond.fieldLink RX6 12 (TX6 0).1 (TX6 0).2.1 (TX6 0).2.2.1 ∈ wsX6_pupil := by decide +kernel
abbrev rmX6_pupil : Room := { frames := 5, cells := 0, slots := 0, locals := 125 }
set_option maxHeartbeats 4000000 in
set_option maxRecDepth 100000 in
theorem k_X6_pupil (l : Launch) {k : gK} {L : List Nat} {f : Nat → va_E} (hL : L.Nodup) {A : Nat → Nat} {q0 : PS} (hP : isPN k L f A q0) (hH : pHK q0) (hN : wOK q0.1)  : kM l k L f yX6_pupil wsX6_pupil rmX6_pupil [.ref (A 0)] (pP k L A (some (.int (vX6_pupil q0 ))) (wX6_pupil q0 )) := by
  refine kM_of (cc := cX6_pupil) (maxL := 1) (ret := (some .int)) (by decide) rfl (Nat.le_of_ble_eq_true rfl) ?_
  intro p e s m args below meth c C hr
  have hD : gD (fun q => q ∈ L) L := ⟨hL, fun _ h => h⟩
  refine gx_lv [(0, _)] [0] rfl ?_
  refine gx_aload_n (q := 0) C dX6_pupil_0 rfl ?_
  refine gx_get C (i := 1) (isPN_in hP 0 (by decide)) (isPN_0 hP) rfl in_X6_pupil_6 (by decide) fl_X6_pupil_19 rfl dX6_pupil_1 ?_
  refine gx_aload_n (q := 0) C dX6_pupil_4 rfl ?_
  refine gx_get C (i := 0) (isPN_in hP 0 (by decide)) (isPN_0 hP) rfl in_X6_pupil_6 (by decide) fl_X6_pupil_12 rfl dX6_pupil_5 ?_
  refine gx_callPv C hD (k_X1_prepare l hL hP hH) (isPN_in hP 1 (by decide)) (isPN_1 hP) rfl (cwV 1 C.2.2.2.2.1 gX6_pupil_X1_prepare rfl rfl rfl kdV_X1_prepare ⟨Nat.le_of_ble_eq_true rfl, Nat.le_of_ble_eq_true rfl⟩) rfl rfl (Nat.le_of_ble_eq_true rfl) ⟨Nat.le_of_ble_eq_true rfl, Nat.le_of_ble_eq_true rfl⟩ dX6_pupil_8 (fun f_1 hP_1 => ?_)
  refine gx_aload_n (q := 0) C dX6_pupil_11 rfl ?_
  refine gx_get C (i := 1) (isPN_in hP_1 0 (by decide)) (isPN_0 hP_1) rfl in_X6_pupil_6 (by decide) fl_X6_pupil_19 rfl dX6_pupil_12 ?_
  refine gx_aload_n (q := 0) C dX6_pupil_15 rfl ?_
  refine gx_get C (i := 0) (isPN_in hP_1 0 (by decide)) (isPN_0 hP_1) rfl in_X6_pupil_6 (by decide) fl_X6_pupil_12 rfl dX6_pupil_16 ?_
  refine gx_callNi C hD hP_1 (k_X5_admitPupil l hL (isPN_now hP_1) ) (isPN_in hP_1 6 (by decide)) (isPN_now0 hP_1) rfl (cwV 0 C.2.2.2.2.1 gX6_pupil_X5_admitPupil rfl rfl rfl kdV_X5_admitPupil ⟨Nat.le_of_ble_eq_true rfl, Nat.le_of_ble_eq_true rfl⟩) rfl rfl (Nat.le_of_ble_eq_true rfl) ⟨Nat.le_of_ble_eq_true rfl, Nat.le_of_ble_eq_true rfl⟩ dX6_pupil_19 (fun f_2 hP_2 => ?_)
  refine gx_callPi C hD (k_X1_record l hL hP_2 _) (isPN_in hP_2 1 (by decide)) (isPN_1 hP_2) rfl (cwV 1 C.2.2.2.2.1 gX6_pupil_X1_record rfl rfl rfl kdV_X1_record ⟨Nat.le_of_ble_eq_true rfl, Nat.le_of_ble_eq_true rfl⟩) rfl rfl (Nat.le_of_ble_eq_true rfl) ⟨Nat.le_of_ble_eq_true rfl, Nat.le_of_ble_eq_true rfl⟩ dX6_pupil_22 (fun f_3 hP_3 => ?_)
  exact gx_iretP C hr hP_3 dX6_pupil_25 (rfl).symm (rfl).symm
theorem kdN_X6_book : yX6_book.cls ≠ "java/lang/invoke/MethodHandle" ∧ yX6_book.cls ≠ "java/lang/invoke/VarHandle" ∧ (parseMethodDescriptor yX6_book.desc).map (fun d => d.parameters.length) = some 3 := by decide +kernel
theorem kdV_X6_book : yX6_book.cls = RX6 ∧ yX6_book.cls ≠ "java/lang/invoke/MethodHandle" ∧ yX6_book.cls ≠ "java/lang/invoke/VarHandle" ∧ (parseMethodDescriptor yX6_book.desc).map (fun d => d.parameters.length) = some 3 := ⟨rfl, kdN_X6_book⟩
def vX6_book (q0 : PS) (q : Int32) (wh : Int32) (ah : Int32) : Int32 := (vX1_record (pwNow (wX1_prepare q0 ) (wX5_bookWheel ((wX1_prepare q0 )).1 q wh ah)) (vX5_bookWheel ((wX1_prepare q0 )).1 q wh ah))
def wX6_book (q0 : PS) (q : Int32) (wh : Int32) (ah : Int32) : PS := (wX1_record (pwNow (wX1_prepare q0 ) (wX5_bookWheel ((wX1_prepare q0 )).1 q wh ah)) (vX5_bookWheel ((wX1_prepare q0 )).1 q wh ah))
theorem in_X6_book_6 : ∀ w ∈ u_ws RX6 TX6 4, w ∈ wsX6_book := by decide +kernel
theorem fl_X6_book_19 : Cond.fieldLink RX6 19 (TX6 1).1 (TX6 1).2.1 (TX6 1).2.2.1 ∈ wsX6_book := by decide +kernel
theorem fl_X6_book_12 : Cond.fieldLink RX6 12 (TX6 0).1 (TX6 0).2.1 (TX6 0).2.2.1 ∈ wsX6_book := by decide +kernel
abbrev rmX6_book : Room := { frames := 5, cells := 0, slots := 0, locals := 125 }
set_option maxHeartbeats 4000000 in
set_option maxRecDepth 100000 in
theorem k_X6_book (l : Launch) {k : gK} {L : List Nat} {f : Nat → va_E} (hL : L.Nodup) {A : Nat → Nat} {q0 : PS} (hP : isPN k L f A q0) (hH : pHK q0) (hN : wOK q0.1) (q : Int32) (wh : Int32) (ah : Int32) : kM l k L f yX6_book wsX6_book rmX6_book [.ref (A 0), .int q, .int wh, .int ah] (pP k L A (some (.int (vX6_book q0 q wh ah))) (wX6_book q0 q wh ah)) := by
  refine kM_of (cc := cX6_book) (maxL := 4) (ret := (some .int)) (by decide) rfl (Nat.le_of_ble_eq_true rfl) ?_
  intro p e s m args below meth c C hr
  have hD : gD (fun q => q ∈ L) L := ⟨hL, fun _ h => h⟩
  refine gx_lv [(0, _), (1, _), (2, _), (3, _)] [0, 1, 2, 3] rfl ?_
  refine gx_aload_n (q := 0) C dX6_book_0 rfl ?_
  refine gx_get C (i := 1) (isPN_in hP 0 (by decide)) (isPN_0 hP) rfl in_X6_book_6 (by decide) fl_X6_book_19 rfl dX6_book_1 ?_
  refine gx_aload_n (q := 0) C dX6_book_4 rfl ?_
  refine gx_get C (i := 0) (isPN_in hP 0 (by decide)) (isPN_0 hP) rfl in_X6_book_6 (by decide) fl_X6_book_12 rfl dX6_book_5 ?_
  refine gx_callPv C hD (k_X1_prepare l hL hP hH) (isPN_in hP 1 (by decide)) (isPN_1 hP) rfl (cwV 1 C.2.2.2.2.1 gX6_book_X1_prepare rfl rfl rfl kdV_X1_prepare ⟨Nat.le_of_ble_eq_true rfl, Nat.le_of_ble_eq_true rfl⟩) rfl rfl (Nat.le_of_ble_eq_true rfl) ⟨Nat.le_of_ble_eq_true rfl, Nat.le_of_ble_eq_true rfl⟩ dX6_book_8 (fun f_1 hP_1 => ?_)
  refine gx_aload_n (q := 0) C dX6_book_11 rfl ?_
  refine gx_get C (i := 1) (isPN_in hP_1 0 (by decide)) (isPN_0 hP_1) rfl in_X6_book_6 (by decide) fl_X6_book_19 rfl dX6_book_12 ?_
  refine gx_aload_n (q := 0) C dX6_book_15 rfl ?_
  refine gx_get C (i := 0) (isPN_in hP_1 0 (by decide)) (isPN_0 hP_1) rfl in_X6_book_6 (by decide) fl_X6_book_12 rfl dX6_book_16 ?_
  refine gx_iload_n (q := 1) C dX6_book_19 rfl ?_
  refine gx_iload_n (q := 2) C dX6_book_20 rfl ?_
  refine gx_iload_n (q := 3) C dX6_book_21 rfl ?_
  refine gx_callNi C hD hP_1 (k_X5_bookWheel l hL (isPN_now hP_1) _ _ _) (isPN_in hP_1 6 (by decide)) (isPN_now0 hP_1) rfl (cwV 3 C.2.2.2.2.1 gX6_book_X5_bookWheel rfl rfl rfl kdV_X5_bookWheel ⟨Nat.le_of_ble_eq_true rfl, Nat.le_of_ble_eq_true rfl⟩) rfl rfl (Nat.le_of_ble_eq_true rfl) ⟨Nat.le_of_ble_eq_true rfl, Nat.le_of_ble_eq_true rfl⟩ dX6_book_22 (fun f_2 hP_2 => ?_)
  refine gx_callPi C hD (k_X1_record l hL hP_2 _) (isPN_in hP_2 1 (by decide)) (isPN_1 hP_2) rfl (cwV 1 C.2.2.2.2.1 gX6_book_X1_record rfl rfl rfl kdV_X1_record ⟨Nat.le_of_ble_eq_true rfl, Nat.le_of_ble_eq_true rfl⟩) rfl rfl (Nat.le_of_ble_eq_true rfl) ⟨Nat.le_of_ble_eq_true rfl, Nat.le_of_ble_eq_true rfl⟩ dX6_book_25 (fun f_3 hP_3 => ?_)
  exact gx_iretP C hr hP_3 dX6_book_28 (rfl).symm (rfl).symm
theorem kdN_X6_giveBack : yX6_giveBack.cls ≠ "java/lang/invoke/MethodHandle" ∧ yX6_giveBack.cls ≠ "java/lang/invoke/VarHandle" ∧ (parseMethodDescriptor yX6_giveBack.desc).map (fun d => d.parameters.length) = some 2 := by decide +kernel
theorem kdV_X6_giveBack : yX6_giveBack.cls = RX6 ∧ yX6_giveBack.cls ≠ "java/lang/invoke/MethodHandle" ∧ yX6_giveBack.cls ≠ "java/lang/invoke/VarHandle" ∧ (parseMethodDescriptor yX6_giveBack.desc).map (fun d => d.parameters.length) = some 2 := ⟨rfl, kdN_X6_giveBack⟩
def vX6_giveBack (q0 : PS) (q : Int32) (ah : Int32) : Int32 := (vX1_record (pwNow (wX1_prepare q0 ) (wX5_cancelBooking ((wX1_prepare q0 )).1 q ah)) (vX5_cancelBooking ((wX1_prepare q0 )).1 q ah))
def wX6_giveBack (q0 : PS) (q : Int32) (ah : Int32) : PS := (wX1_record (pwNow (wX1_prepare q0 ) (wX5_cancelBooking ((wX1_prepare q0 )).1 q ah)) (vX5_cancelBooking ((wX1_prepare q0 )).1 q ah))
theorem in_X6_giveBack_6 : ∀ w ∈ u_ws RX6 TX6 4, w ∈ wsX6_giveBack := by decide +kernel
theorem fl_X6_giveBack_19 : Cond.fieldLink RX6 19 (TX6 1).1 (TX6 1).2.1 (TX6 1).2.2.1 ∈ wsX6_giveBack := by decide +kernel
theorem fl_X6_giveBack_12 : Cond.fieldLink RX6 12 (TX6 0).1 (TX6 0).2.1 (TX6 0).2.2.1 ∈ wsX6_giveBack := by decide +kernel
abbrev rmX6_giveBack : Room := { frames := 5, cells := 0, slots := 0, locals := 125 }
set_option maxHeartbeats 4000000 in
set_option maxRecDepth 100000 in
theorem k_X6_giveBack (l : Launch) {k : gK} {L : List Nat} {f : Nat → va_E} (hL : L.Nodup) {A : Nat → Nat} {q0 : PS} (hP : isPN k L f A q0) (hH : pHK q0) (hN : wOK q0.1) (q : Int32) (ah : Int32) : kM l k L f yX6_giveBack wsX6_giveBack rmX6_giveBack [.ref (A 0), .int q, .int ah] (pP k L A (some (.int (vX6_giveBack q0 q ah))) (wX6_giveBack q0 q ah)) := by
  refine kM_of (cc := cX6_giveBack) (maxL := 3) (ret := (some .int)) (by decide) rfl (Nat.le_of_ble_eq_true rfl) ?_
  intro p e s m args below meth c C hr
  have hD : gD (fun q => q ∈ L) L := ⟨hL, fun _ h => h⟩
  refine gx_lv [(0, _), (1, _), (2, _)] [0, 1, 2] rfl ?_
  refine gx_aload_n (q := 0) C dX6_giveBack_0 rfl ?_
  refine gx_get C (i := 1) (isPN_in hP 0 (by decide)) (isPN_0 hP) rfl in_X6_giveBack_6 (by decide) fl_X6_giveBack_19 rfl dX6_giveBack_1 ?_
  refine gx_aload_n (q := 0) C dX6_giveBack_4 rfl ?_
  refine gx_get C (i := 0) (isPN_in hP 0 (by decide)) (isPN_0 hP) rfl in_X6_giveBack_6 (by decide) fl_X6_giveBack_12 rfl dX6_giveBack_5 ?_
  refine gx_callPv C hD (k_X1_prepare l hL hP hH) (isPN_in hP 1 (by decide)) (isPN_1 hP) rfl (cwV 1 C.2.2.2.2.1 gX6_giveBack_X1_prepare rfl rfl rfl kdV_X1_prepare ⟨Nat.le_of_ble_eq_true rfl, Nat.le_of_ble_eq_true rfl⟩) rfl rfl (Nat.le_of_ble_eq_true rfl) ⟨Nat.le_of_ble_eq_true rfl, Nat.le_of_ble_eq_true rfl⟩ dX6_giveBack_8 (fun f_1 hP_1 => ?_)
  refine gx_aload_n (q := 0) C dX6_giveBack_11 rfl ?_
  refine gx_get C (i := 1) (isPN_in hP_1 0 (by decide)) (isPN_0 hP_1) rfl in_X6_giveBack_6 (by decide) fl_X6_giveBack_19 rfl dX6_giveBack_12 ?_
  refine gx_aload_n (q := 0) C dX6_giveBack_15 rfl ?_
  refine gx_get C (i := 0) (isPN_in hP_1 0 (by decide)) (isPN_0 hP_1) rfl in_X6_giveBack_6 (by decide) fl_X6_giveBack_12 rfl dX6_giveBack_16 ?_
  refine gx_iload_n (q := 1) C dX6_giveBack_19 rfl ?_
  refine gx_iload_n (q := 2) C dX6_giveBack_20 rfl ?_
  refine gx_callNi C hD hP_1 (k_X5_cancelBooking l hL (isPN_now hP_1) _ _) (isPN_in hP_1 6 (by decide)) (isPN_now0 hP_1) rfl (cwV 2 C.2.2.2.2.1 gX6_giveBack_X5_cancelBooking rfl rfl rfl kdV_X5_cancelBooking ⟨Nat.le_of_ble_eq_true rfl, Nat.le_of_ble_eq_true rfl⟩) rfl rfl (Nat.le_of_ble_eq_true rfl) ⟨Nat.le_of_ble_eq_true rfl, Nat.le_of_ble_eq_true rfl⟩ dX6_giveBack_21 (fun f_2 hP_2 => ?_)
  refine gx_callPi C hD (k_X1_record l hL hP_2 _) (isPN_in hP_2 1 (by decide)) (isPN_1 hP_2) rfl (cwV 1 C.2.2.2.2.1 gX6_giveBack_X1_record rfl rfl rfl kdV_X1_record ⟨Nat.le_of_ble_eq_true rfl, Nat.le_of_ble_eq_true rfl⟩) rfl rfl (Nat.le_of_ble_eq_true rfl) ⟨Nat.le_of_ble_eq_true rfl, Nat.le_of_ble_eq_true rfl⟩ dX6_giveBack_24 (fun f_3 hP_3 => ?_)
  exact gx_iretP C hr hP_3 dX6_giveBack_27 (rfl).symm (rfl).symm
theorem kdN_X6_throwPot : yX6_throwPot.cls ≠ "java/lang/invoke/MethodHandle" ∧ yX6_throwPot.cls ≠ "java/lang/invoke/VarHandle" ∧ (parseMethodDescriptor yX6_throwPot.desc).map (fun d => d.parameters.length) = some 2 := by decide +kernel
theorem kdV_X6_throwPot : yX6_throwPot.cls = RX6 ∧ yX6_throwPot.cls ≠ "java/lang/invoke/MethodHandle" ∧ yX6_throwPot.cls ≠ "java/lang/invoke/VarHandle" ∧ (parseMethodDescriptor yX6_throwPot.desc).map (fun d => d.parameters.length) = some 2 := ⟨rfl, kdN_X6_throwPot⟩
def vX6_throwPot (q0 : PS) (q : Int32) (sz : Int32) : Int32 := (vX1_record (pwNow (wX1_prepare q0 ) (wX5_throwClay ((wX1_prepare q0 )).1 q sz)) (vX5_throwClay ((wX1_prepare q0 )).1 q sz))
def wX6_throwPot (q0 : PS) (q : Int32) (sz : Int32) : PS := (wX1_record (pwNow (wX1_prepare q0 ) (wX5_throwClay ((wX1_prepare q0 )).1 q sz)) (vX5_throwClay ((wX1_prepare q0 )).1 q sz))
theorem in_X6_throwPot_6 : ∀ w ∈ u_ws RX6 TX6 4, w ∈ wsX6_throwPot := by decide +kernel
theorem fl_X6_throwPot_19 : Cond.fieldLink RX6 19 (TX6 1).1 (TX6 1).2.1 (TX6 1).2.2.1 ∈ wsX6_throwPot := by decide +kernel
theorem fl_X6_throwPot_12 : Cond.fieldLink RX6 12 (TX6 0).1 (TX6 0).2.1 (TX6 0).2.2.1 ∈ wsX6_throwPot := by decide +kernel
abbrev rmX6_throwPot : Room := { frames := 5, cells := 0, slots := 0, locals := 125 }
set_option maxHeartbeats 4000000 in
set_option maxRecDepth 100000 in
theorem k_X6_throwPot (l : Launch) {k : gK} {L : List Nat} {f : Nat → va_E} (hL : L.Nodup) {A : Nat → Nat} {q0 : PS} (hP : isPN k L f A q0) (hH : pHK q0) (hN : wOK q0.1) (q : Int32) (sz : Int32) : kM l k L f yX6_throwPot wsX6_throwPot rmX6_throwPot [.ref (A 0), .int q, .int sz] (pP k L A (some (.int (vX6_throwPot q0 q sz))) (wX6_throwPot q0 q sz)) := by
  refine kM_of (cc := cX6_throwPot) (maxL := 3) (ret := (some .int)) (by decide) rfl (Nat.le_of_ble_eq_true rfl) ?_
  intro p e s m args below meth c C hr
  have hD : gD (fun q => q ∈ L) L := ⟨hL, fun _ h => h⟩
  refine gx_lv [(0, _), (1, _), (2, _)] [0, 1, 2] rfl ?_
  refine gx_aload_n (q := 0) C dX6_throwPot_0 rfl ?_
  refine gx_get C (i := 1) (isPN_in hP 0 (by decide)) (isPN_0 hP) rfl in_X6_throwPot_6 (by decide) fl_X6_throwPot_19 rfl dX6_throwPot_1 ?_
  refine gx_aload_n (q := 0) C dX6_throwPot_4 rfl ?_
  refine gx_get C (i := 0) (isPN_in hP 0 (by decide)) (isPN_0 hP) rfl in_X6_throwPot_6 (by decide) fl_X6_throwPot_12 rfl dX6_throwPot_5 ?_
  refine gx_callPv C hD (k_X1_prepare l hL hP hH) (isPN_in hP 1 (by decide)) (isPN_1 hP) rfl (cwV 1 C.2.2.2.2.1 gX6_throwPot_X1_prepare rfl rfl rfl kdV_X1_prepare ⟨Nat.le_of_ble_eq_true rfl, Nat.le_of_ble_eq_true rfl⟩) rfl rfl (Nat.le_of_ble_eq_true rfl) ⟨Nat.le_of_ble_eq_true rfl, Nat.le_of_ble_eq_true rfl⟩ dX6_throwPot_8 (fun f_1 hP_1 => ?_)
  refine gx_aload_n (q := 0) C dX6_throwPot_11 rfl ?_
  refine gx_get C (i := 1) (isPN_in hP_1 0 (by decide)) (isPN_0 hP_1) rfl in_X6_throwPot_6 (by decide) fl_X6_throwPot_19 rfl dX6_throwPot_12 ?_
  refine gx_aload_n (q := 0) C dX6_throwPot_15 rfl ?_
  refine gx_get C (i := 0) (isPN_in hP_1 0 (by decide)) (isPN_0 hP_1) rfl in_X6_throwPot_6 (by decide) fl_X6_throwPot_12 rfl dX6_throwPot_16 ?_
  refine gx_iload_n (q := 1) C dX6_throwPot_19 rfl ?_
  refine gx_iload_n (q := 2) C dX6_throwPot_20 rfl ?_
  refine gx_callNi C hD hP_1 (k_X5_throwClay l hL (isPN_now hP_1) hN _ _) (isPN_in hP_1 6 (by decide)) (isPN_now0 hP_1) rfl (cwV 2 C.2.2.2.2.1 gX6_throwPot_X5_throwClay rfl rfl rfl kdV_X5_throwClay ⟨Nat.le_of_ble_eq_true rfl, Nat.le_of_ble_eq_true rfl⟩) rfl rfl (Nat.le_of_ble_eq_true rfl) ⟨Nat.le_of_ble_eq_true rfl, Nat.le_of_ble_eq_true rfl⟩ dX6_throwPot_21 (fun f_2 hP_2 => ?_)
  refine gx_callPi C hD (k_X1_record l hL hP_2 _) (isPN_in hP_2 1 (by decide)) (isPN_1 hP_2) rfl (cwV 1 C.2.2.2.2.1 gX6_throwPot_X1_record rfl rfl rfl kdV_X1_record ⟨Nat.le_of_ble_eq_true rfl, Nat.le_of_ble_eq_true rfl⟩) rfl rfl (Nat.le_of_ble_eq_true rfl) ⟨Nat.le_of_ble_eq_true rfl, Nat.le_of_ble_eq_true rfl⟩ dX6_throwPot_24 (fun f_3 hP_3 => ?_)
  exact gx_iretP C hr hP_3 dX6_throwPot_27 (rfl).symm (rfl).symm
theorem kdN_X6_load : yX6_load.cls ≠ "java/lang/invoke/MethodHandle" ∧ yX6_load.cls ≠ "java/lang/invoke/VarHandle" ∧ (parseMethodDescriptor yX6_load.desc).map (fun d => d.parameters.length) = some 1 := by decide +kernel
theorem kdV_X6_load : yX6_load.cls = RX6 ∧ yX6_load.cls ≠ "java/lang/invoke/MethodHandle" ∧ yX6_load.cls ≠ "java/lang/invoke/VarHandle" ∧ (parseMethodDescriptor yX6_load.desc).map (fun d => d.parameters.length) = some 1 := ⟨rfl, kdN_X6_load⟩
def vX6_load (q0 : PS) (q : Int32) : Int32 := (vX1_record (pwNow (wX1_prepare q0 ) (wX5_moveIntoKiln ((wX1_prepare q0 )).1 q)) (vX5_moveIntoKiln ((wX1_prepare q0 )).1 q))
def wX6_load (q0 : PS) (q : Int32) : PS := (wX1_record (pwNow (wX1_prepare q0 ) (wX5_moveIntoKiln ((wX1_prepare q0 )).1 q)) (vX5_moveIntoKiln ((wX1_prepare q0 )).1 q))
theorem in_X6_load_6 : ∀ w ∈ u_ws RX6 TX6 4, w ∈ wsX6_load := by decide +kernel
theorem fl_X6_load_19 : Cond.fieldLink RX6 19 (TX6 1).1 (TX6 1).2.1 (TX6 1).2.2.1 ∈ wsX6_load := by decide +kernel
theorem fl_X6_load_12 : Cond.fieldLink RX6 12 (TX6 0).1 (TX6 0).2.1 (TX6 0).2.2.1 ∈ wsX6_load := by decide +kernel
abbrev rmX6_load : Room := { frames := 5, cells := 0, slots := 0, locals := 125 }
set_option maxHeartbeats 4000000 in
set_option maxRecDepth 100000 in
theorem k_X6_load (l : Launch) {k : gK} {L : List Nat} {f : Nat → va_E} (hL : L.Nodup) {A : Nat → Nat} {q0 : PS} (hP : isPN k L f A q0) (hH : pHK q0) (hN : wOK q0.1) (q : Int32) : kM l k L f yX6_load wsX6_load rmX6_load [.ref (A 0), .int q] (pP k L A (some (.int (vX6_load q0 q))) (wX6_load q0 q)) := by
  refine kM_of (cc := cX6_load) (maxL := 2) (ret := (some .int)) (by decide) rfl (Nat.le_of_ble_eq_true rfl) ?_
  intro p e s m args below meth c C hr
  have hD : gD (fun q => q ∈ L) L := ⟨hL, fun _ h => h⟩
  refine gx_lv [(0, _), (1, _)] [0, 1] rfl ?_
  refine gx_aload_n (q := 0) C dX6_load_0 rfl ?_
  refine gx_get C (i := 1) (isPN_in hP 0 (by decide)) (isPN_0 hP) rfl in_X6_load_6 (by decide) fl_X6_load_19 rfl dX6_load_1 ?_
  refine gx_aload_n (q := 0) C dX6_load_4 rfl ?_
  refine gx_get C (i := 0) (isPN_in hP 0 (by decide)) (isPN_0 hP) rfl in_X6_load_6 (by decide) fl_X6_load_12 rfl dX6_load_5 ?_
  refine gx_callPv C hD (k_X1_prepare l hL hP hH) (isPN_in hP 1 (by decide)) (isPN_1 hP) rfl (cwV 1 C.2.2.2.2.1 gX6_load_X1_prepare rfl rfl rfl kdV_X1_prepare ⟨Nat.le_of_ble_eq_true rfl, Nat.le_of_ble_eq_true rfl⟩) rfl rfl (Nat.le_of_ble_eq_true rfl) ⟨Nat.le_of_ble_eq_true rfl, Nat.le_of_ble_eq_true rfl⟩ dX6_load_8 (fun f_1 hP_1 => ?_)
  refine gx_aload_n (q := 0) C dX6_load_11 rfl ?_
  refine gx_get C (i := 1) (isPN_in hP_1 0 (by decide)) (isPN_0 hP_1) rfl in_X6_load_6 (by decide) fl_X6_load_19 rfl dX6_load_12 ?_
  refine gx_aload_n (q := 0) C dX6_load_15 rfl ?_
  refine gx_get C (i := 0) (isPN_in hP_1 0 (by decide)) (isPN_0 hP_1) rfl in_X6_load_6 (by decide) fl_X6_load_12 rfl dX6_load_16 ?_
  refine gx_iload_n (q := 1) C dX6_load_19 rfl ?_
  refine gx_callNi C hD hP_1 (k_X5_moveIntoKiln l hL (isPN_now hP_1) hN _) (isPN_in hP_1 6 (by decide)) (isPN_now0 hP_1) rfl (cwV 1 C.2.2.2.2.1 gX6_load_X5_moveIntoKiln rfl rfl rfl kdV_X5_moveIntoKiln ⟨Nat.le_of_ble_eq_true rfl, Nat.le_of_ble_eq_true rfl⟩) rfl rfl (Nat.le_of_ble_eq_true rfl) ⟨Nat.le_of_ble_eq_true rfl, Nat.le_of_ble_eq_true rfl⟩ dX6_load_20 (fun f_2 hP_2 => ?_)
  refine gx_callPi C hD (k_X1_record l hL hP_2 _) (isPN_in hP_2 1 (by decide)) (isPN_1 hP_2) rfl (cwV 1 C.2.2.2.2.1 gX6_load_X1_record rfl rfl rfl kdV_X1_record ⟨Nat.le_of_ble_eq_true rfl, Nat.le_of_ble_eq_true rfl⟩) rfl rfl (Nat.le_of_ble_eq_true rfl) ⟨Nat.le_of_ble_eq_true rfl, Nat.le_of_ble_eq_true rfl⟩ dX6_load_23 (fun f_3 hP_3 => ?_)
  exact gx_iretP C hr hP_3 dX6_load_26 (rfl).symm (rfl).symm
theorem kdN_X6_unload : yX6_unload.cls ≠ "java/lang/invoke/MethodHandle" ∧ yX6_unload.cls ≠ "java/lang/invoke/VarHandle" ∧ (parseMethodDescriptor yX6_unload.desc).map (fun d => d.parameters.length) = some 1 := by decide +kernel
theorem kdV_X6_unload : yX6_unload.cls = RX6 ∧ yX6_unload.cls ≠ "java/lang/invoke/MethodHandle" ∧ yX6_unload.cls ≠ "java/lang/invoke/VarHandle" ∧ (parseMethodDescriptor yX6_unload.desc).map (fun d => d.parameters.length) = some 1 := ⟨rfl, kdN_X6_unload⟩
def vX6_unload (q0 : PS) (q : Int32) : Int32 := (vX1_record (pwNow (wX1_prepare q0 ) (wX5_moveOutOfKiln ((wX1_prepare q0 )).1 q)) (vX5_moveOutOfKiln ((wX1_prepare q0 )).1 q))
def wX6_unload (q0 : PS) (q : Int32) : PS := (wX1_record (pwNow (wX1_prepare q0 ) (wX5_moveOutOfKiln ((wX1_prepare q0 )).1 q)) (vX5_moveOutOfKiln ((wX1_prepare q0 )).1 q))
theorem in_X6_unload_6 : ∀ w ∈ u_ws RX6 TX6 4, w ∈ wsX6_unload := by decide +kernel
theorem fl_X6_unload_19 : Cond.fieldLink RX6 19 (TX6 1).1 (TX6 1).2.1 (TX6 1).2.2.1 ∈ wsX6_unload := by decide +kernel
theorem fl_X6_unload_12 : Cond.fieldLink RX6 12 (TX6 0).1 (TX6 0).2.1 (TX6 0).2.2.1 ∈ wsX6_unload := by decide +kernel
abbrev rmX6_unload : Room := { frames := 5, cells := 0, slots := 0, locals := 125 }
set_option maxHeartbeats 4000000 in
set_option maxRecDepth 100000 in
theorem k_X6_unload (l : Launch) {k : gK} {L : List Nat} {f : Nat → va_E} (hL : L.Nodup) {A : Nat → Nat} {q0 : PS} (hP : isPN k L f A q0) (hH : pHK q0) (hN : wOK q0.1) (q : Int32) : kM l k L f yX6_unload wsX6_unload rmX6_unload [.ref (A 0), .int q] (pP k L A (some (.int (vX6_unload q0 q))) (wX6_unload q0 q)) := by
  refine kM_of (cc := cX6_unload) (maxL := 2) (ret := (some .int)) (by decide) rfl (Nat.le_of_ble_eq_true rfl) ?_
  intro p e s m args below meth c C hr
  have hD : gD (fun q => q ∈ L) L := ⟨hL, fun _ h => h⟩
  refine gx_lv [(0, _), (1, _)] [0, 1] rfl ?_
  refine gx_aload_n (q := 0) C dX6_unload_0 rfl ?_
  refine gx_get C (i := 1) (isPN_in hP 0 (by decide)) (isPN_0 hP) rfl in_X6_unload_6 (by decide) fl_X6_unload_19 rfl dX6_unload_1 ?_
  refine gx_aload_n (q := 0) C dX6_unload_4 rfl ?_
  refine gx_get C (i := 0) (isPN_in hP 0 (by decide)) (isPN_0 hP) rfl in_X6_unload_6 (by decide) fl_X6_unload_12 rfl dX6_unload_5 ?_
  refine gx_callPv C hD (k_X1_prepare l hL hP hH) (isPN_in hP 1 (by decide)) (isPN_1 hP) rfl (cwV 1 C.2.2.2.2.1 gX6_unload_X1_prepare rfl rfl rfl kdV_X1_prepare ⟨Nat.le_of_ble_eq_true rfl, Nat.le_of_ble_eq_true rfl⟩) rfl rfl (Nat.le_of_ble_eq_true rfl) ⟨Nat.le_of_ble_eq_true rfl, Nat.le_of_ble_eq_true rfl⟩ dX6_unload_8 (fun f_1 hP_1 => ?_)
  refine gx_aload_n (q := 0) C dX6_unload_11 rfl ?_
  refine gx_get C (i := 1) (isPN_in hP_1 0 (by decide)) (isPN_0 hP_1) rfl in_X6_unload_6 (by decide) fl_X6_unload_19 rfl dX6_unload_12 ?_
  refine gx_aload_n (q := 0) C dX6_unload_15 rfl ?_
  refine gx_get C (i := 0) (isPN_in hP_1 0 (by decide)) (isPN_0 hP_1) rfl in_X6_unload_6 (by decide) fl_X6_unload_12 rfl dX6_unload_16 ?_
  refine gx_iload_n (q := 1) C dX6_unload_19 rfl ?_
  refine gx_callNi C hD hP_1 (k_X5_moveOutOfKiln l hL (isPN_now hP_1) hN _) (isPN_in hP_1 6 (by decide)) (isPN_now0 hP_1) rfl (cwV 1 C.2.2.2.2.1 gX6_unload_X5_moveOutOfKiln rfl rfl rfl kdV_X5_moveOutOfKiln ⟨Nat.le_of_ble_eq_true rfl, Nat.le_of_ble_eq_true rfl⟩) rfl rfl (Nat.le_of_ble_eq_true rfl) ⟨Nat.le_of_ble_eq_true rfl, Nat.le_of_ble_eq_true rfl⟩ dX6_unload_20 (fun f_2 hP_2 => ?_)
  refine gx_callPi C hD (k_X1_record l hL hP_2 _) (isPN_in hP_2 1 (by decide)) (isPN_1 hP_2) rfl (cwV 1 C.2.2.2.2.1 gX6_unload_X1_record rfl rfl rfl kdV_X1_record ⟨Nat.le_of_ble_eq_true rfl, Nat.le_of_ble_eq_true rfl⟩) rfl rfl (Nat.le_of_ble_eq_true rfl) ⟨Nat.le_of_ble_eq_true rfl, Nat.le_of_ble_eq_true rfl⟩ dX6_unload_23 (fun f_3 hP_3 => ?_)
  exact gx_iretP C hr hP_3 dX6_unload_26 (rfl).symm (rfl).symm
theorem kdN_X6_fire : yX6_fire.cls ≠ "java/lang/invoke/MethodHandle" ∧ yX6_fire.cls ≠ "java/lang/invoke/VarHandle" ∧ (parseMethodDescriptor yX6_fire.desc).map (fun d => d.parameters.length) = some 1 := by decide +kernel
theorem kdV_X6_fire : yX6_fire.cls = RX6 ∧ yX6_fire.cls ≠ "java/lang/invoke/MethodHandle" ∧ yX6_fire.cls ≠ "java/lang/invoke/VarHandle" ∧ (parseMethodDescriptor yX6_fire.desc).map (fun d => d.parameters.length) = some 1 := ⟨rfl, kdN_X6_fire⟩
def vX6_fire (q0 : PS) (heat : Int32) : Int32 := (vX1_record (pwNow (wX1_prepare q0 ) (cFireW ((wX1_prepare q0 )).1 heat)) (cFireV ((wX1_prepare q0 )).1 heat))
def wX6_fire (q0 : PS) (heat : Int32) : PS := (wX1_record (pwNow (wX1_prepare q0 ) (cFireW ((wX1_prepare q0 )).1 heat)) (cFireV ((wX1_prepare q0 )).1 heat))
theorem in_X6_fire_6 : ∀ w ∈ u_ws RX6 TX6 4, w ∈ wsX6_fire := by decide +kernel
theorem fl_X6_fire_19 : Cond.fieldLink RX6 19 (TX6 1).1 (TX6 1).2.1 (TX6 1).2.2.1 ∈ wsX6_fire := by decide +kernel
theorem fl_X6_fire_12 : Cond.fieldLink RX6 12 (TX6 0).1 (TX6 0).2.1 (TX6 0).2.2.1 ∈ wsX6_fire := by decide +kernel
abbrev rmX6_fire : Room := { frames := 5, cells := 0, slots := 0, locals := 125 }
set_option maxHeartbeats 4000000 in
set_option maxRecDepth 100000 in
theorem k_X6_fire (l : Launch) {k : gK} {L : List Nat} {f : Nat → va_E} (hL : L.Nodup) {A : Nat → Nat} {q0 : PS} (hP : isPN k L f A q0) (hH : pHK q0) (hN : wOK q0.1) (heat : Int32) : kM l k L f yX6_fire wsX6_fire rmX6_fire [.ref (A 0), .int heat] (pP k L A (some (.int (vX6_fire q0 heat))) (wX6_fire q0 heat)) := by
  refine kM_of (cc := cX6_fire) (maxL := 2) (ret := (some .int)) (by decide) rfl (Nat.le_of_ble_eq_true rfl) ?_
  intro p e s m args below meth c C hr
  have hD : gD (fun q => q ∈ L) L := ⟨hL, fun _ h => h⟩
  refine gx_lv [(0, _), (1, _)] [0, 1] rfl ?_
  refine gx_aload_n (q := 0) C dX6_fire_0 rfl ?_
  refine gx_get C (i := 1) (isPN_in hP 0 (by decide)) (isPN_0 hP) rfl in_X6_fire_6 (by decide) fl_X6_fire_19 rfl dX6_fire_1 ?_
  refine gx_aload_n (q := 0) C dX6_fire_4 rfl ?_
  refine gx_get C (i := 0) (isPN_in hP 0 (by decide)) (isPN_0 hP) rfl in_X6_fire_6 (by decide) fl_X6_fire_12 rfl dX6_fire_5 ?_
  refine gx_callPv C hD (k_X1_prepare l hL hP hH) (isPN_in hP 1 (by decide)) (isPN_1 hP) rfl (cwV 1 C.2.2.2.2.1 gX6_fire_X1_prepare rfl rfl rfl kdV_X1_prepare ⟨Nat.le_of_ble_eq_true rfl, Nat.le_of_ble_eq_true rfl⟩) rfl rfl (Nat.le_of_ble_eq_true rfl) ⟨Nat.le_of_ble_eq_true rfl, Nat.le_of_ble_eq_true rfl⟩ dX6_fire_8 (fun f_1 hP_1 => ?_)
  refine gx_aload_n (q := 0) C dX6_fire_11 rfl ?_
  refine gx_get C (i := 1) (isPN_in hP_1 0 (by decide)) (isPN_0 hP_1) rfl in_X6_fire_6 (by decide) fl_X6_fire_19 rfl dX6_fire_12 ?_
  refine gx_aload_n (q := 0) C dX6_fire_15 rfl ?_
  refine gx_get C (i := 0) (isPN_in hP_1 0 (by decide)) (isPN_0 hP_1) rfl in_X6_fire_6 (by decide) fl_X6_fire_12 rfl dX6_fire_16 ?_
  refine gx_iload_n (q := 1) C dX6_fire_19 rfl ?_
  refine gx_callNi C hD hP_1 (k_X5_fireKiln l hL (isPN_now hP_1) hN _) (isPN_in hP_1 6 (by decide)) (isPN_now0 hP_1) rfl (cwV 1 C.2.2.2.2.1 gX6_fire_X5_fireKiln rfl rfl rfl kdV_X5_fireKiln ⟨Nat.le_of_ble_eq_true rfl, Nat.le_of_ble_eq_true rfl⟩) rfl rfl (Nat.le_of_ble_eq_true rfl) ⟨Nat.le_of_ble_eq_true rfl, Nat.le_of_ble_eq_true rfl⟩ dX6_fire_20 (fun f_2 hP_2 => ?_)
  refine gx_callPi C hD (k_X1_record l hL hP_2 _) (isPN_in hP_2 1 (by decide)) (isPN_1 hP_2) rfl (cwV 1 C.2.2.2.2.1 gX6_fire_X1_record rfl rfl rfl kdV_X1_record ⟨Nat.le_of_ble_eq_true rfl, Nat.le_of_ble_eq_true rfl⟩) rfl rfl (Nat.le_of_ble_eq_true rfl) ⟨Nat.le_of_ble_eq_true rfl, Nat.le_of_ble_eq_true rfl⟩ dX6_fire_23 (fun f_3 hP_3 => ?_)
  exact gx_iretP C hr hP_3 dX6_fire_26 (rfl).symm (rfl).symm
theorem kdN_X6_glaze : yX6_glaze.cls ≠ "java/lang/invoke/MethodHandle" ∧ yX6_glaze.cls ≠ "java/lang/invoke/VarHandle" ∧ (parseMethodDescriptor yX6_glaze.desc).map (fun d => d.parameters.length) = some 2 := by decide +kernel
theorem kdV_X6_glaze : yX6_glaze.cls = RX6 ∧ yX6_glaze.cls ≠ "java/lang/invoke/MethodHandle" ∧ yX6_glaze.cls ≠ "java/lang/invoke/VarHandle" ∧ (parseMethodDescriptor yX6_glaze.desc).map (fun d => d.parameters.length) = some 2 := ⟨rfl, kdN_X6_glaze⟩
def vX6_glaze (q0 : PS) (q : Int32) (gl : Int32) : Int32 := (vX1_record (pwNow (wX1_prepare q0 ) (wX5_glazePot ((wX1_prepare q0 )).1 q gl)) (vX5_glazePot ((wX1_prepare q0 )).1 q gl))
def wX6_glaze (q0 : PS) (q : Int32) (gl : Int32) : PS := (wX1_record (pwNow (wX1_prepare q0 ) (wX5_glazePot ((wX1_prepare q0 )).1 q gl)) (vX5_glazePot ((wX1_prepare q0 )).1 q gl))
theorem in_X6_glaze_6 : ∀ w ∈ u_ws RX6 TX6 4, w ∈ wsX6_glaze := by decide +kernel
theorem fl_X6_glaze_19 : Cond.fieldLink RX6 19 (TX6 1).1 (TX6 1).2.1 (TX6 1).2.2.1 ∈ wsX6_glaze := by decide +kernel
theorem fl_X6_glaze_12 : Cond.fieldLink RX6 12 (TX6 0).1 (TX6 0).2.1 (TX6 0).2.2.1 ∈ wsX6_glaze := by decide +kernel
abbrev rmX6_glaze : Room := { frames := 5, cells := 0, slots := 0, locals := 125 }
set_option maxHeartbeats 4000000 in
set_option maxRecDepth 100000 in
theorem k_X6_glaze (l : Launch) {k : gK} {L : List Nat} {f : Nat → va_E} (hL : L.Nodup) {A : Nat → Nat} {q0 : PS} (hP : isPN k L f A q0) (hH : pHK q0) (hN : wOK q0.1) (q : Int32) (gl : Int32) : kM l k L f yX6_glaze wsX6_glaze rmX6_glaze [.ref (A 0), .int q, .int gl] (pP k L A (some (.int (vX6_glaze q0 q gl))) (wX6_glaze q0 q gl)) := by
  refine kM_of (cc := cX6_glaze) (maxL := 3) (ret := (some .int)) (by decide) rfl (Nat.le_of_ble_eq_true rfl) ?_
  intro p e s m args below meth c C hr
  have hD : gD (fun q => q ∈ L) L := ⟨hL, fun _ h => h⟩
  refine gx_lv [(0, _), (1, _), (2, _)] [0, 1, 2] rfl ?_
  refine gx_aload_n (q := 0) C dX6_glaze_0 rfl ?_
  refine gx_get C (i := 1) (isPN_in hP 0 (by decide)) (isPN_0 hP) rfl in_X6_glaze_6 (by decide) fl_X6_glaze_19 rfl dX6_glaze_1 ?_
  refine gx_aload_n (q := 0) C dX6_glaze_4 rfl ?_
  refine gx_get C (i := 0) (isPN_in hP 0 (by decide)) (isPN_0 hP) rfl in_X6_glaze_6 (by decide) fl_X6_glaze_12 rfl dX6_glaze_5 ?_
  refine gx_callPv C hD (k_X1_prepare l hL hP hH) (isPN_in hP 1 (by decide)) (isPN_1 hP) rfl (cwV 1 C.2.2.2.2.1 gX6_glaze_X1_prepare rfl rfl rfl kdV_X1_prepare ⟨Nat.le_of_ble_eq_true rfl, Nat.le_of_ble_eq_true rfl⟩) rfl rfl (Nat.le_of_ble_eq_true rfl) ⟨Nat.le_of_ble_eq_true rfl, Nat.le_of_ble_eq_true rfl⟩ dX6_glaze_8 (fun f_1 hP_1 => ?_)
  refine gx_aload_n (q := 0) C dX6_glaze_11 rfl ?_
  refine gx_get C (i := 1) (isPN_in hP_1 0 (by decide)) (isPN_0 hP_1) rfl in_X6_glaze_6 (by decide) fl_X6_glaze_19 rfl dX6_glaze_12 ?_
  refine gx_aload_n (q := 0) C dX6_glaze_15 rfl ?_
  refine gx_get C (i := 0) (isPN_in hP_1 0 (by decide)) (isPN_0 hP_1) rfl in_X6_glaze_6 (by decide) fl_X6_glaze_12 rfl dX6_glaze_16 ?_
  refine gx_iload_n (q := 1) C dX6_glaze_19 rfl ?_
  refine gx_iload_n (q := 2) C dX6_glaze_20 rfl ?_
  refine gx_callNi C hD hP_1 (k_X5_glazePot l hL (isPN_now hP_1) _ _) (isPN_in hP_1 6 (by decide)) (isPN_now0 hP_1) rfl (cwV 2 C.2.2.2.2.1 gX6_glaze_X5_glazePot rfl rfl rfl kdV_X5_glazePot ⟨Nat.le_of_ble_eq_true rfl, Nat.le_of_ble_eq_true rfl⟩) rfl rfl (Nat.le_of_ble_eq_true rfl) ⟨Nat.le_of_ble_eq_true rfl, Nat.le_of_ble_eq_true rfl⟩ dX6_glaze_21 (fun f_2 hP_2 => ?_)
  refine gx_callPi C hD (k_X1_record l hL hP_2 _) (isPN_in hP_2 1 (by decide)) (isPN_1 hP_2) rfl (cwV 1 C.2.2.2.2.1 gX6_glaze_X1_record rfl rfl rfl kdV_X1_record ⟨Nat.le_of_ble_eq_true rfl, Nat.le_of_ble_eq_true rfl⟩) rfl rfl (Nat.le_of_ble_eq_true rfl) ⟨Nat.le_of_ble_eq_true rfl, Nat.le_of_ble_eq_true rfl⟩ dX6_glaze_24 (fun f_3 hP_3 => ?_)
  exact gx_iretP C hr hP_3 dX6_glaze_27 (rfl).symm (rfl).symm
theorem kdN_X6_fill : yX6_fill.cls ≠ "java/lang/invoke/MethodHandle" ∧ yX6_fill.cls ≠ "java/lang/invoke/VarHandle" ∧ (parseMethodDescriptor yX6_fill.desc).map (fun d => d.parameters.length) = some 2 := by decide +kernel
theorem kdV_X6_fill : yX6_fill.cls = RX6 ∧ yX6_fill.cls ≠ "java/lang/invoke/MethodHandle" ∧ yX6_fill.cls ≠ "java/lang/invoke/VarHandle" ∧ (parseMethodDescriptor yX6_fill.desc).map (fun d => d.parameters.length) = some 2 := ⟨rfl, kdN_X6_fill⟩
def vX6_fill (q0 : PS) (gl : Int32) (pt : Int32) : Int32 := (vX1_record (pwNow (wX1_prepare q0 ) (wX5_fillGlaze ((wX1_prepare q0 )).1 gl pt)) (vX5_fillGlaze ((wX1_prepare q0 )).1 gl pt))
def wX6_fill (q0 : PS) (gl : Int32) (pt : Int32) : PS := (wX1_record (pwNow (wX1_prepare q0 ) (wX5_fillGlaze ((wX1_prepare q0 )).1 gl pt)) (vX5_fillGlaze ((wX1_prepare q0 )).1 gl pt))
theorem in_X6_fill_6 : ∀ w ∈ u_ws RX6 TX6 4, w ∈ wsX6_fill := by decide +kernel
theorem fl_X6_fill_19 : Cond.fieldLink RX6 19 (TX6 1).1 (TX6 1).2.1 (TX6 1).2.2.1 ∈ wsX6_fill := by decide +kernel
theorem fl_X6_fill_12 : Cond.fieldLink RX6 12 (TX6 0).1 (TX6 0).2.1 (TX6 0).2.2.1 ∈ wsX6_fill := by decide +kernel
abbrev rmX6_fill : Room := { frames := 5, cells := 0, slots := 0, locals := 125 }
set_option maxHeartbeats 4000000 in
set_option maxRecDepth 100000 in
theorem k_X6_fill (l : Launch) {k : gK} {L : List Nat} {f : Nat → va_E} (hL : L.Nodup) {A : Nat → Nat} {q0 : PS} (hP : isPN k L f A q0) (hH : pHK q0) (hN : wOK q0.1) (gl : Int32) (pt : Int32) : kM l k L f yX6_fill wsX6_fill rmX6_fill [.ref (A 0), .int gl, .int pt] (pP k L A (some (.int (vX6_fill q0 gl pt))) (wX6_fill q0 gl pt)) := by
  refine kM_of (cc := cX6_fill) (maxL := 3) (ret := (some .int)) (by decide) rfl (Nat.le_of_ble_eq_true rfl) ?_
  intro p e s m args below meth c C hr
  have hD : gD (fun q => q ∈ L) L := ⟨hL, fun _ h => h⟩
  refine gx_lv [(0, _), (1, _), (2, _)] [0, 1, 2] rfl ?_
  refine gx_aload_n (q := 0) C dX6_fill_0 rfl ?_
  refine gx_get C (i := 1) (isPN_in hP 0 (by decide)) (isPN_0 hP) rfl in_X6_fill_6 (by decide) fl_X6_fill_19 rfl dX6_fill_1 ?_
  refine gx_aload_n (q := 0) C dX6_fill_4 rfl ?_
  refine gx_get C (i := 0) (isPN_in hP 0 (by decide)) (isPN_0 hP) rfl in_X6_fill_6 (by decide) fl_X6_fill_12 rfl dX6_fill_5 ?_
  refine gx_callPv C hD (k_X1_prepare l hL hP hH) (isPN_in hP 1 (by decide)) (isPN_1 hP) rfl (cwV 1 C.2.2.2.2.1 gX6_fill_X1_prepare rfl rfl rfl kdV_X1_prepare ⟨Nat.le_of_ble_eq_true rfl, Nat.le_of_ble_eq_true rfl⟩) rfl rfl (Nat.le_of_ble_eq_true rfl) ⟨Nat.le_of_ble_eq_true rfl, Nat.le_of_ble_eq_true rfl⟩ dX6_fill_8 (fun f_1 hP_1 => ?_)
  refine gx_aload_n (q := 0) C dX6_fill_11 rfl ?_
  refine gx_get C (i := 1) (isPN_in hP_1 0 (by decide)) (isPN_0 hP_1) rfl in_X6_fill_6 (by decide) fl_X6_fill_19 rfl dX6_fill_12 ?_
  refine gx_aload_n (q := 0) C dX6_fill_15 rfl ?_
  refine gx_get C (i := 0) (isPN_in hP_1 0 (by decide)) (isPN_0 hP_1) rfl in_X6_fill_6 (by decide) fl_X6_fill_12 rfl dX6_fill_16 ?_
  refine gx_iload_n (q := 1) C dX6_fill_19 rfl ?_
  refine gx_iload_n (q := 2) C dX6_fill_20 rfl ?_
  refine gx_callNi C hD hP_1 (k_X5_fillGlaze l hL (isPN_now hP_1) _ _) (isPN_in hP_1 6 (by decide)) (isPN_now0 hP_1) rfl (cwV 2 C.2.2.2.2.1 gX6_fill_X5_fillGlaze rfl rfl rfl kdV_X5_fillGlaze ⟨Nat.le_of_ble_eq_true rfl, Nat.le_of_ble_eq_true rfl⟩) rfl rfl (Nat.le_of_ble_eq_true rfl) ⟨Nat.le_of_ble_eq_true rfl, Nat.le_of_ble_eq_true rfl⟩ dX6_fill_21 (fun f_2 hP_2 => ?_)
  refine gx_callPi C hD (k_X1_record l hL hP_2 _) (isPN_in hP_2 1 (by decide)) (isPN_1 hP_2) rfl (cwV 1 C.2.2.2.2.1 gX6_fill_X1_record rfl rfl rfl kdV_X1_record ⟨Nat.le_of_ble_eq_true rfl, Nat.le_of_ble_eq_true rfl⟩) rfl rfl (Nat.le_of_ble_eq_true rfl) ⟨Nat.le_of_ble_eq_true rfl, Nat.le_of_ble_eq_true rfl⟩ dX6_fill_24 (fun f_3 hP_3 => ?_)
  exact gx_iretP C hr hP_3 dX6_fill_27 (rfl).symm (rfl).symm
theorem kdN_X6_takeHome : yX6_takeHome.cls ≠ "java/lang/invoke/MethodHandle" ∧ yX6_takeHome.cls ≠ "java/lang/invoke/VarHandle" ∧ (parseMethodDescriptor yX6_takeHome.desc).map (fun d => d.parameters.length) = some 1 := by decide +kernel
theorem kdV_X6_takeHome : yX6_takeHome.cls = RX6 ∧ yX6_takeHome.cls ≠ "java/lang/invoke/MethodHandle" ∧ yX6_takeHome.cls ≠ "java/lang/invoke/VarHandle" ∧ (parseMethodDescriptor yX6_takeHome.desc).map (fun d => d.parameters.length) = some 1 := ⟨rfl, kdN_X6_takeHome⟩
def vX6_takeHome (q0 : PS) (q : Int32) : Int32 := (vX1_record (pwNow (wX1_prepare q0 ) (wX5_handOver ((wX1_prepare q0 )).1 q)) (vX5_handOver ((wX1_prepare q0 )).1 q))
def wX6_takeHome (q0 : PS) (q : Int32) : PS := (wX1_record (pwNow (wX1_prepare q0 ) (wX5_handOver ((wX1_prepare q0 )).1 q)) (vX5_handOver ((wX1_prepare q0 )).1 q))
theorem in_X6_takeHome_6 : ∀ w ∈ u_ws RX6 TX6 4, w ∈ wsX6_takeHome := by decide +kernel
theorem fl_X6_takeHome_19 : Cond.fieldLink RX6 19 (TX6 1).1 (TX6 1).2.1 (TX6 1).2.2.1 ∈ wsX6_takeHome := by decide +kernel
theorem fl_X6_takeHome_12 : Cond.fieldLink RX6 12 (TX6 0).1 (TX6 0).2.1 (TX6 0).2.2.1 ∈ wsX6_takeHome := by decide +kernel
abbrev rmX6_takeHome : Room := { frames := 5, cells := 0, slots := 0, locals := 125 }
set_option maxHeartbeats 4000000 in
set_option maxRecDepth 100000 in
theorem k_X6_takeHome (l : Launch) {k : gK} {L : List Nat} {f : Nat → va_E} (hL : L.Nodup) {A : Nat → Nat} {q0 : PS} (hP : isPN k L f A q0) (hH : pHK q0) (hN : wOK q0.1) (q : Int32) : kM l k L f yX6_takeHome wsX6_takeHome rmX6_takeHome [.ref (A 0), .int q] (pP k L A (some (.int (vX6_takeHome q0 q))) (wX6_takeHome q0 q)) := by
  refine kM_of (cc := cX6_takeHome) (maxL := 2) (ret := (some .int)) (by decide) rfl (Nat.le_of_ble_eq_true rfl) ?_
  intro p e s m args below meth c C hr
  have hD : gD (fun q => q ∈ L) L := ⟨hL, fun _ h => h⟩
  refine gx_lv [(0, _), (1, _)] [0, 1] rfl ?_
  refine gx_aload_n (q := 0) C dX6_takeHome_0 rfl ?_
  refine gx_get C (i := 1) (isPN_in hP 0 (by decide)) (isPN_0 hP) rfl in_X6_takeHome_6 (by decide) fl_X6_takeHome_19 rfl dX6_takeHome_1 ?_
  refine gx_aload_n (q := 0) C dX6_takeHome_4 rfl ?_
  refine gx_get C (i := 0) (isPN_in hP 0 (by decide)) (isPN_0 hP) rfl in_X6_takeHome_6 (by decide) fl_X6_takeHome_12 rfl dX6_takeHome_5 ?_
  refine gx_callPv C hD (k_X1_prepare l hL hP hH) (isPN_in hP 1 (by decide)) (isPN_1 hP) rfl (cwV 1 C.2.2.2.2.1 gX6_takeHome_X1_prepare rfl rfl rfl kdV_X1_prepare ⟨Nat.le_of_ble_eq_true rfl, Nat.le_of_ble_eq_true rfl⟩) rfl rfl (Nat.le_of_ble_eq_true rfl) ⟨Nat.le_of_ble_eq_true rfl, Nat.le_of_ble_eq_true rfl⟩ dX6_takeHome_8 (fun f_1 hP_1 => ?_)
  refine gx_aload_n (q := 0) C dX6_takeHome_11 rfl ?_
  refine gx_get C (i := 1) (isPN_in hP_1 0 (by decide)) (isPN_0 hP_1) rfl in_X6_takeHome_6 (by decide) fl_X6_takeHome_19 rfl dX6_takeHome_12 ?_
  refine gx_aload_n (q := 0) C dX6_takeHome_15 rfl ?_
  refine gx_get C (i := 0) (isPN_in hP_1 0 (by decide)) (isPN_0 hP_1) rfl in_X6_takeHome_6 (by decide) fl_X6_takeHome_12 rfl dX6_takeHome_16 ?_
  refine gx_iload_n (q := 1) C dX6_takeHome_19 rfl ?_
  refine gx_callNi C hD hP_1 (k_X5_handOver l hL (isPN_now hP_1) _) (isPN_in hP_1 6 (by decide)) (isPN_now0 hP_1) rfl (cwV 1 C.2.2.2.2.1 gX6_takeHome_X5_handOver rfl rfl rfl kdV_X5_handOver ⟨Nat.le_of_ble_eq_true rfl, Nat.le_of_ble_eq_true rfl⟩) rfl rfl (Nat.le_of_ble_eq_true rfl) ⟨Nat.le_of_ble_eq_true rfl, Nat.le_of_ble_eq_true rfl⟩ dX6_takeHome_20 (fun f_2 hP_2 => ?_)
  refine gx_callPi C hD (k_X1_record l hL hP_2 _) (isPN_in hP_2 1 (by decide)) (isPN_1 hP_2) rfl (cwV 1 C.2.2.2.2.1 gX6_takeHome_X1_record rfl rfl rfl kdV_X1_record ⟨Nat.le_of_ble_eq_true rfl, Nat.le_of_ble_eq_true rfl⟩) rfl rfl (Nat.le_of_ble_eq_true rfl) ⟨Nat.le_of_ble_eq_true rfl, Nat.le_of_ble_eq_true rfl⟩ dX6_takeHome_23 (fun f_3 hP_3 => ?_)
  exact gx_iretP C hr hP_3 dX6_takeHome_26 (rfl).symm (rfl).symm
theorem kdN_X6_pass : yX6_pass.cls ≠ "java/lang/invoke/MethodHandle" ∧ yX6_pass.cls ≠ "java/lang/invoke/VarHandle" ∧ (parseMethodDescriptor yX6_pass.desc).map (fun d => d.parameters.length) = some 1 := by decide +kernel
theorem kdV_X6_pass : yX6_pass.cls = RX6 ∧ yX6_pass.cls ≠ "java/lang/invoke/MethodHandle" ∧ yX6_pass.cls ≠ "java/lang/invoke/VarHandle" ∧ (parseMethodDescriptor yX6_pass.desc).map (fun d => d.parameters.length) = some 1 := ⟨rfl, kdN_X6_pass⟩
def vX6_pass (q0 : PS) (n : Int32) : Int32 := (vX1_record (pwNow (wX1_prepare q0 ) (cPassW ((wX1_prepare q0 )).1 n)) (cPassV ((wX1_prepare q0 )).1 n))
def wX6_pass (q0 : PS) (n : Int32) : PS := (wX1_record (pwNow (wX1_prepare q0 ) (cPassW ((wX1_prepare q0 )).1 n)) (cPassV ((wX1_prepare q0 )).1 n))
theorem in_X6_pass_6 : ∀ w ∈ u_ws RX6 TX6 4, w ∈ wsX6_pass := by decide +kernel
theorem fl_X6_pass_19 : Cond.fieldLink RX6 19 (TX6 1).1 (TX6 1).2.1 (TX6 1).2.2.1 ∈ wsX6_pass := by decide +kernel
theorem fl_X6_pass_12 : Cond.fieldLink RX6 12 (TX6 0).1 (TX6 0).2.1 (TX6 0).2.2.1 ∈ wsX6_pass := by decide +kernel
abbrev rmX6_pass : Room := { frames := 5, cells := 0, slots := 0, locals := 125 }
set_option maxHeartbeats 4000000 in
set_option maxRecDepth 100000 in
theorem k_X6_pass (l : Launch) {k : gK} {L : List Nat} {f : Nat → va_E} (hL : L.Nodup) {A : Nat → Nat} {q0 : PS} (hP : isPN k L f A q0) (hH : pHK q0) (hN : wOK q0.1) (n : Int32) : kM l k L f yX6_pass wsX6_pass rmX6_pass [.ref (A 0), .int n] (pP k L A (some (.int (vX6_pass q0 n))) (wX6_pass q0 n)) := by
  refine kM_of (cc := cX6_pass) (maxL := 2) (ret := (some .int)) (by decide) rfl (Nat.le_of_ble_eq_true rfl) ?_
  intro p e s m args below meth c C hr
  have hD : gD (fun q => q ∈ L) L := ⟨hL, fun _ h => h⟩
  refine gx_lv [(0, _), (1, _)] [0, 1] rfl ?_
  refine gx_aload_n (q := 0) C dX6_pass_0 rfl ?_
  refine gx_get C (i := 1) (isPN_in hP 0 (by decide)) (isPN_0 hP) rfl in_X6_pass_6 (by decide) fl_X6_pass_19 rfl dX6_pass_1 ?_
  refine gx_aload_n (q := 0) C dX6_pass_4 rfl ?_
  refine gx_get C (i := 0) (isPN_in hP 0 (by decide)) (isPN_0 hP) rfl in_X6_pass_6 (by decide) fl_X6_pass_12 rfl dX6_pass_5 ?_
  refine gx_callPv C hD (k_X1_prepare l hL hP hH) (isPN_in hP 1 (by decide)) (isPN_1 hP) rfl (cwV 1 C.2.2.2.2.1 gX6_pass_X1_prepare rfl rfl rfl kdV_X1_prepare ⟨Nat.le_of_ble_eq_true rfl, Nat.le_of_ble_eq_true rfl⟩) rfl rfl (Nat.le_of_ble_eq_true rfl) ⟨Nat.le_of_ble_eq_true rfl, Nat.le_of_ble_eq_true rfl⟩ dX6_pass_8 (fun f_1 hP_1 => ?_)
  refine gx_aload_n (q := 0) C dX6_pass_11 rfl ?_
  refine gx_get C (i := 1) (isPN_in hP_1 0 (by decide)) (isPN_0 hP_1) rfl in_X6_pass_6 (by decide) fl_X6_pass_19 rfl dX6_pass_12 ?_
  refine gx_aload_n (q := 0) C dX6_pass_15 rfl ?_
  refine gx_get C (i := 0) (isPN_in hP_1 0 (by decide)) (isPN_0 hP_1) rfl in_X6_pass_6 (by decide) fl_X6_pass_12 rfl dX6_pass_16 ?_
  refine gx_iload_n (q := 1) C dX6_pass_19 rfl ?_
  refine gx_callNi C hD hP_1 (k_X5_passNights l hL (isPN_now hP_1) hN _) (isPN_in hP_1 6 (by decide)) (isPN_now0 hP_1) rfl (cwV 1 C.2.2.2.2.1 gX6_pass_X5_passNights rfl rfl rfl kdV_X5_passNights ⟨Nat.le_of_ble_eq_true rfl, Nat.le_of_ble_eq_true rfl⟩) rfl rfl (Nat.le_of_ble_eq_true rfl) ⟨Nat.le_of_ble_eq_true rfl, Nat.le_of_ble_eq_true rfl⟩ dX6_pass_20 (fun f_2 hP_2 => ?_)
  refine gx_callPi C hD (k_X1_record l hL hP_2 _) (isPN_in hP_2 1 (by decide)) (isPN_1 hP_2) rfl (cwV 1 C.2.2.2.2.1 gX6_pass_X1_record rfl rfl rfl kdV_X1_record ⟨Nat.le_of_ble_eq_true rfl, Nat.le_of_ble_eq_true rfl⟩) rfl rfl (Nat.le_of_ble_eq_true rfl) ⟨Nat.le_of_ble_eq_true rfl, Nat.le_of_ble_eq_true rfl⟩ dX6_pass_23 (fun f_3 hP_3 => ?_)
  exact gx_iretP C hr hP_3 dX6_pass_26 (rfl).symm (rfl).symm
theorem kdN_X6_of : yX6_of.cls ≠ "java/lang/invoke/MethodHandle" ∧ yX6_of.cls ≠ "java/lang/invoke/VarHandle" ∧ (parseMethodDescriptor yX6_of.desc).map (fun d => d.parameters.length) = some 2 := by decide +kernel
theorem kdV_X6_of : yX6_of.cls = RX6 ∧ yX6_of.cls ≠ "java/lang/invoke/MethodHandle" ∧ yX6_of.cls ≠ "java/lang/invoke/VarHandle" ∧ (parseMethodDescriptor yX6_of.desc).map (fun d => d.parameters.length) = some 2 := ⟨rfl, kdN_X6_of⟩
def vX6_of (q0 : PS) (q : Int32) (what : Int32) : Int32 := (vX5_factOfPot q0.1 q what)
theorem in_X6_of_6 : ∀ w ∈ u_ws RX6 TX6 4, w ∈ wsX6_of := by decide +kernel
theorem fl_X6_of_12 : Cond.fieldLink RX6 12 (TX6 0).1 (TX6 0).2.1 (TX6 0).2.2.1 ∈ wsX6_of := by decide +kernel
abbrev rmX6_of : Room := { frames := 3, cells := 0, slots := 0, locals := 68 }
set_option maxHeartbeats 4000000 in
set_option maxRecDepth 100000 in
theorem k_X6_of (l : Launch) {k : gK} {L : List Nat} {f : Nat → va_E} {A : Nat → Nat} {q0 : PS} (hP : isPN k L f A q0) (hN : wOK q0.1) (q : Int32) (what : Int32) : kR l k L f yX6_of wsX6_of rmX6_of [.ref (A 0), .int q, .int what] (.int (vX6_of q0 q what)) := by
  refine kR_of (cc := cX6_of) (maxL := 3) (ret := (some .int)) (by decide) rfl (Nat.le_of_ble_eq_true rfl) ?_
  intro p e s m args below meth c C hr
  refine gx_lv [(0, _), (1, _), (2, _)] [0, 1, 2] rfl ?_
  refine gx_aload_n (q := 0) C dX6_of_0 rfl ?_
  refine gx_get C (i := 0) (isPN_in hP 0 (by decide)) (isPN_0 hP) rfl in_X6_of_6 (by decide) fl_X6_of_12 rfl dX6_of_1 ?_
  refine gx_iload_n (q := 1) C dX6_of_4 rfl ?_
  refine gx_iload_n (q := 2) C dX6_of_5 rfl ?_
  refine gx_callR C (k_X5_factOfPot l (isPN_now hP) _ _) (isPN_in hP 6 (by decide)) (isPN_now0 hP) rfl (cwV 2 C.2.2.2.2.1 gX6_of_X5_factOfPot rfl rfl rfl kdV_X5_factOfPot ⟨Nat.le_of_ble_eq_true rfl, Nat.le_of_ble_eq_true rfl⟩) rfl rfl (Nat.le_of_ble_eq_true rfl) ⟨Nat.le_of_ble_eq_true rfl, Nat.le_of_ble_eq_true rfl⟩ dX6_of_6 ?_
  exact gx_iretR C rfl hr dX6_of_9 (congrArg Value.int (rfl).symm)
theorem kdN_X6_ofPupil : yX6_ofPupil.cls ≠ "java/lang/invoke/MethodHandle" ∧ yX6_ofPupil.cls ≠ "java/lang/invoke/VarHandle" ∧ (parseMethodDescriptor yX6_ofPupil.desc).map (fun d => d.parameters.length) = some 2 := by decide +kernel
theorem kdV_X6_ofPupil : yX6_ofPupil.cls = RX6 ∧ yX6_ofPupil.cls ≠ "java/lang/invoke/MethodHandle" ∧ yX6_ofPupil.cls ≠ "java/lang/invoke/VarHandle" ∧ (parseMethodDescriptor yX6_ofPupil.desc).map (fun d => d.parameters.length) = some 2 := ⟨rfl, kdN_X6_ofPupil⟩
def vX6_ofPupil (q0 : PS) (q : Int32) (what : Int32) : Int32 := (vX5_factOfPupil q0.1 q what)
theorem in_X6_ofPupil_6 : ∀ w ∈ u_ws RX6 TX6 4, w ∈ wsX6_ofPupil := by decide +kernel
theorem fl_X6_ofPupil_12 : Cond.fieldLink RX6 12 (TX6 0).1 (TX6 0).2.1 (TX6 0).2.2.1 ∈ wsX6_ofPupil := by decide +kernel
abbrev rmX6_ofPupil : Room := { frames := 5, cells := 0, slots := 0, locals := 113 }
set_option maxHeartbeats 4000000 in
set_option maxRecDepth 100000 in
theorem k_X6_ofPupil (l : Launch) {k : gK} {L : List Nat} {f : Nat → va_E} {A : Nat → Nat} {q0 : PS} (hP : isPN k L f A q0) (hN : wOK q0.1) (q : Int32) (what : Int32) : kR l k L f yX6_ofPupil wsX6_ofPupil rmX6_ofPupil [.ref (A 0), .int q, .int what] (.int (vX6_ofPupil q0 q what)) := by
  refine kR_of (cc := cX6_ofPupil) (maxL := 3) (ret := (some .int)) (by decide) rfl (Nat.le_of_ble_eq_true rfl) ?_
  intro p e s m args below meth c C hr
  refine gx_lv [(0, _), (1, _), (2, _)] [0, 1, 2] rfl ?_
  refine gx_aload_n (q := 0) C dX6_ofPupil_0 rfl ?_
  refine gx_get C (i := 0) (isPN_in hP 0 (by decide)) (isPN_0 hP) rfl in_X6_ofPupil_6 (by decide) fl_X6_ofPupil_12 rfl dX6_ofPupil_1 ?_
  refine gx_iload_n (q := 1) C dX6_ofPupil_4 rfl ?_
  refine gx_iload_n (q := 2) C dX6_ofPupil_5 rfl ?_
  refine gx_callR C (k_X5_factOfPupil l (isPN_now hP) hN _ _) (isPN_in hP 6 (by decide)) (isPN_now0 hP) rfl (cwV 2 C.2.2.2.2.1 gX6_ofPupil_X5_factOfPupil rfl rfl rfl kdV_X5_factOfPupil ⟨Nat.le_of_ble_eq_true rfl, Nat.le_of_ble_eq_true rfl⟩) rfl rfl (Nat.le_of_ble_eq_true rfl) ⟨Nat.le_of_ble_eq_true rfl, Nat.le_of_ble_eq_true rfl⟩ dX6_ofPupil_6 ?_
  exact gx_iretR C rfl hr dX6_ofPupil_9 (congrArg Value.int (rfl).symm)
theorem kdN_X6_booked : yX6_booked.cls ≠ "java/lang/invoke/MethodHandle" ∧ yX6_booked.cls ≠ "java/lang/invoke/VarHandle" ∧ (parseMethodDescriptor yX6_booked.desc).map (fun d => d.parameters.length) = some 2 := by decide +kernel
theorem kdV_X6_booked : yX6_booked.cls = RX6 ∧ yX6_booked.cls ≠ "java/lang/invoke/MethodHandle" ∧ yX6_booked.cls ≠ "java/lang/invoke/VarHandle" ∧ (parseMethodDescriptor yX6_booked.desc).map (fun d => d.parameters.length) = some 2 := ⟨rfl, kdN_X6_booked⟩
def vX6_booked (q0 : PS) (wh : Int32) (ah : Int32) : Int32 := (vX5_bookerOf q0.1 wh ah)
theorem in_X6_booked_6 : ∀ w ∈ u_ws RX6 TX6 4, w ∈ wsX6_booked := by decide +kernel
theorem fl_X6_booked_12 : Cond.fieldLink RX6 12 (TX6 0).1 (TX6 0).2.1 (TX6 0).2.2.1 ∈ wsX6_booked := by decide +kernel
abbrev rmX6_booked : Room := { frames := 3, cells := 0, slots := 0, locals := 67 }
set_option maxHeartbeats 4000000 in
set_option maxRecDepth 100000 in
theorem k_X6_booked (l : Launch) {k : gK} {L : List Nat} {f : Nat → va_E} {A : Nat → Nat} {q0 : PS} (hP : isPN k L f A q0) (hN : wOK q0.1) (wh : Int32) (ah : Int32) : kR l k L f yX6_booked wsX6_booked rmX6_booked [.ref (A 0), .int wh, .int ah] (.int (vX6_booked q0 wh ah)) := by
  refine kR_of (cc := cX6_booked) (maxL := 3) (ret := (some .int)) (by decide) rfl (Nat.le_of_ble_eq_true rfl) ?_
  intro p e s m args below meth c C hr
  refine gx_lv [(0, _), (1, _), (2, _)] [0, 1, 2] rfl ?_
  refine gx_aload_n (q := 0) C dX6_booked_0 rfl ?_
  refine gx_get C (i := 0) (isPN_in hP 0 (by decide)) (isPN_0 hP) rfl in_X6_booked_6 (by decide) fl_X6_booked_12 rfl dX6_booked_1 ?_
  refine gx_iload_n (q := 1) C dX6_booked_4 rfl ?_
  refine gx_iload_n (q := 2) C dX6_booked_5 rfl ?_
  refine gx_callR C (k_X5_bookerOf l (isPN_now hP) _ _) (isPN_in hP 6 (by decide)) (isPN_now0 hP) rfl (cwV 2 C.2.2.2.2.1 gX6_booked_X5_bookerOf rfl rfl rfl kdV_X5_bookerOf ⟨Nat.le_of_ble_eq_true rfl, Nat.le_of_ble_eq_true rfl⟩) rfl rfl (Nat.le_of_ble_eq_true rfl) ⟨Nat.le_of_ble_eq_true rfl, Nat.le_of_ble_eq_true rfl⟩ dX6_booked_6 ?_
  exact gx_iretR C rfl hr dX6_booked_9 (congrArg Value.int (rfl).symm)
theorem kdN_X6_why : yX6_why.cls ≠ "java/lang/invoke/MethodHandle" ∧ yX6_why.cls ≠ "java/lang/invoke/VarHandle" ∧ (parseMethodDescriptor yX6_why.desc).map (fun d => d.parameters.length) = some 1 := by decide +kernel
theorem kdV_X6_why : yX6_why.cls = RX6 ∧ yX6_why.cls ≠ "java/lang/invoke/MethodHandle" ∧ yX6_why.cls ≠ "java/lang/invoke/VarHandle" ∧ (parseMethodDescriptor yX6_why.desc).map (fun d => d.parameters.length) = some 1 := ⟨rfl, kdN_X6_why⟩
def vX6_why (q0 : PS) (q : Int32) : Int32 := (vX5_reasonAgainstLoading q0.1 q)
theorem in_X6_why_6 : ∀ w ∈ u_ws RX6 TX6 4, w ∈ wsX6_why := by decide +kernel
theorem fl_X6_why_12 : Cond.fieldLink RX6 12 (TX6 0).1 (TX6 0).2.1 (TX6 0).2.2.1 ∈ wsX6_why := by decide +kernel
abbrev rmX6_why : Room := { frames := 4, cells := 0, slots := 0, locals := 88 }
set_option maxHeartbeats 4000000 in
set_option maxRecDepth 100000 in
theorem k_X6_why (l : Launch) {k : gK} {L : List Nat} {f : Nat → va_E} {A : Nat → Nat} {q0 : PS} (hP : isPN k L f A q0) (hN : wOK q0.1) (q : Int32) : kR l k L f yX6_why wsX6_why rmX6_why [.ref (A 0), .int q] (.int (vX6_why q0 q)) := by
  refine kR_of (cc := cX6_why) (maxL := 2) (ret := (some .int)) (by decide) rfl (Nat.le_of_ble_eq_true rfl) ?_
  intro p e s m args below meth c C hr
  refine gx_lv [(0, _), (1, _)] [0, 1] rfl ?_
  refine gx_aload_n (q := 0) C dX6_why_0 rfl ?_
  refine gx_get C (i := 0) (isPN_in hP 0 (by decide)) (isPN_0 hP) rfl in_X6_why_6 (by decide) fl_X6_why_12 rfl dX6_why_1 ?_
  refine gx_iload_n (q := 1) C dX6_why_4 rfl ?_
  refine gx_callR C (k_X5_reasonAgainstLoading l (isPN_now hP) hN _) (isPN_in hP 6 (by decide)) (isPN_now0 hP) rfl (cwV 1 C.2.2.2.2.1 gX6_why_X5_reasonAgainstLoading rfl rfl rfl kdV_X5_reasonAgainstLoading ⟨Nat.le_of_ble_eq_true rfl, Nat.le_of_ble_eq_true rfl⟩) rfl rfl (Nat.le_of_ble_eq_true rfl) ⟨Nat.le_of_ble_eq_true rfl, Nat.le_of_ble_eq_true rfl⟩ dX6_why_5 ?_
  exact gx_iretR C rfl hr dX6_why_8 (congrArg Value.int (rfl).symm)
theorem kdN_X6_dryIn : yX6_dryIn.cls ≠ "java/lang/invoke/MethodHandle" ∧ yX6_dryIn.cls ≠ "java/lang/invoke/VarHandle" ∧ (parseMethodDescriptor yX6_dryIn.desc).map (fun d => d.parameters.length) = some 1 := by decide +kernel
theorem kdV_X6_dryIn : yX6_dryIn.cls = RX6 ∧ yX6_dryIn.cls ≠ "java/lang/invoke/MethodHandle" ∧ yX6_dryIn.cls ≠ "java/lang/invoke/VarHandle" ∧ (parseMethodDescriptor yX6_dryIn.desc).map (fun d => d.parameters.length) = some 1 := ⟨rfl, kdN_X6_dryIn⟩
def vX6_dryIn (q0 : PS) (q : Int32) : Int32 := (vX5_nightsUntilDry q0.1 q)
theorem in_X6_dryIn_6 : ∀ w ∈ u_ws RX6 TX6 4, w ∈ wsX6_dryIn := by decide +kernel
theorem fl_X6_dryIn_12 : Cond.fieldLink RX6 12 (TX6 0).1 (TX6 0).2.1 (TX6 0).2.2.1 ∈ wsX6_dryIn := by decide +kernel
abbrev rmX6_dryIn : Room := { frames := 3, cells := 0, slots := 0, locals := 67 }
set_option maxHeartbeats 4000000 in
set_option maxRecDepth 100000 in
theorem k_X6_dryIn (l : Launch) {k : gK} {L : List Nat} {f : Nat → va_E} {A : Nat → Nat} {q0 : PS} (hP : isPN k L f A q0) (hN : wOK q0.1) (q : Int32) : kR l k L f yX6_dryIn wsX6_dryIn rmX6_dryIn [.ref (A 0), .int q] (.int (vX6_dryIn q0 q)) := by
  refine kR_of (cc := cX6_dryIn) (maxL := 2) (ret := (some .int)) (by decide) rfl (Nat.le_of_ble_eq_true rfl) ?_
  intro p e s m args below meth c C hr
  refine gx_lv [(0, _), (1, _)] [0, 1] rfl ?_
  refine gx_aload_n (q := 0) C dX6_dryIn_0 rfl ?_
  refine gx_get C (i := 0) (isPN_in hP 0 (by decide)) (isPN_0 hP) rfl in_X6_dryIn_6 (by decide) fl_X6_dryIn_12 rfl dX6_dryIn_1 ?_
  refine gx_iload_n (q := 1) C dX6_dryIn_4 rfl ?_
  refine gx_callR C (k_X5_nightsUntilDry l (isPN_now hP) _) (isPN_in hP 6 (by decide)) (isPN_now0 hP) rfl (cwV 1 C.2.2.2.2.1 gX6_dryIn_X5_nightsUntilDry rfl rfl rfl kdV_X5_nightsUntilDry ⟨Nat.le_of_ble_eq_true rfl, Nat.le_of_ble_eq_true rfl⟩) rfl rfl (Nat.le_of_ble_eq_true rfl) ⟨Nat.le_of_ble_eq_true rfl, Nat.le_of_ble_eq_true rfl⟩ dX6_dryIn_5 ?_
  exact gx_iretR C rfl hr dX6_dryIn_8 (congrArg Value.int (rfl).symm)
theorem kdN_X6_ifFired : yX6_ifFired.cls ≠ "java/lang/invoke/MethodHandle" ∧ yX6_ifFired.cls ≠ "java/lang/invoke/VarHandle" ∧ (parseMethodDescriptor yX6_ifFired.desc).map (fun d => d.parameters.length) = some 2 := by decide +kernel
theorem kdV_X6_ifFired : yX6_ifFired.cls = RX6 ∧ yX6_ifFired.cls ≠ "java/lang/invoke/MethodHandle" ∧ yX6_ifFired.cls ≠ "java/lang/invoke/VarHandle" ∧ (parseMethodDescriptor yX6_ifFired.desc).map (fun d => d.parameters.length) = some 2 := ⟨rfl, kdN_X6_ifFired⟩
def vX6_ifFired (q0 : PS) (heat : Int32) (what : Int32) : Int32 := (vX5_outcomeOfFiring q0.1 heat what)
theorem in_X6_ifFired_6 : ∀ w ∈ u_ws RX6 TX6 4, w ∈ wsX6_ifFired := by decide +kernel
theorem fl_X6_ifFired_12 : Cond.fieldLink RX6 12 (TX6 0).1 (TX6 0).2.1 (TX6 0).2.2.1 ∈ wsX6_ifFired := by decide +kernel
abbrev rmX6_ifFired : Room := { frames := 5, cells := 0, slots := 0, locals := 113 }
set_option maxHeartbeats 4000000 in
set_option maxRecDepth 100000 in
theorem k_X6_ifFired (l : Launch) {k : gK} {L : List Nat} {f : Nat → va_E} {A : Nat → Nat} {q0 : PS} (hP : isPN k L f A q0) (hN : wOK q0.1) (heat : Int32) (what : Int32) : kR l k L f yX6_ifFired wsX6_ifFired rmX6_ifFired [.ref (A 0), .int heat, .int what] (.int (vX6_ifFired q0 heat what)) := by
  refine kR_of (cc := cX6_ifFired) (maxL := 3) (ret := (some .int)) (by decide) rfl (Nat.le_of_ble_eq_true rfl) ?_
  intro p e s m args below meth c C hr
  refine gx_lv [(0, _), (1, _), (2, _)] [0, 1, 2] rfl ?_
  refine gx_aload_n (q := 0) C dX6_ifFired_0 rfl ?_
  refine gx_get C (i := 0) (isPN_in hP 0 (by decide)) (isPN_0 hP) rfl in_X6_ifFired_6 (by decide) fl_X6_ifFired_12 rfl dX6_ifFired_1 ?_
  refine gx_iload_n (q := 1) C dX6_ifFired_4 rfl ?_
  refine gx_iload_n (q := 2) C dX6_ifFired_5 rfl ?_
  refine gx_callR C (k_X5_outcomeOfFiring l (isPN_now hP) hN _ _) (isPN_in hP 6 (by decide)) (isPN_now0 hP) rfl (cwV 2 C.2.2.2.2.1 gX6_ifFired_X5_outcomeOfFiring rfl rfl rfl kdV_X5_outcomeOfFiring ⟨Nat.le_of_ble_eq_true rfl, Nat.le_of_ble_eq_true rfl⟩) rfl rfl (Nat.le_of_ble_eq_true rfl) ⟨Nat.le_of_ble_eq_true rfl, Nat.le_of_ble_eq_true rfl⟩ dX6_ifFired_6 ?_
  exact gx_iretR C rfl hr dX6_ifFired_9 (congrArg Value.int (rfl).symm)
theorem kdN_X6_bestHeat : yX6_bestHeat.cls ≠ "java/lang/invoke/MethodHandle" ∧ yX6_bestHeat.cls ≠ "java/lang/invoke/VarHandle" ∧ (parseMethodDescriptor yX6_bestHeat.desc).map (fun d => d.parameters.length) = some 0 := by decide +kernel
theorem kdV_X6_bestHeat : yX6_bestHeat.cls = RX6 ∧ yX6_bestHeat.cls ≠ "java/lang/invoke/MethodHandle" ∧ yX6_bestHeat.cls ≠ "java/lang/invoke/VarHandle" ∧ (parseMethodDescriptor yX6_bestHeat.desc).map (fun d => d.parameters.length) = some 0 := ⟨rfl, kdN_X6_bestHeat⟩
def vX6_bestHeat (q0 : PS)  : Int32 := (cBestHeat q0.1)
theorem in_X6_bestHeat_6 : ∀ w ∈ u_ws RX6 TX6 4, w ∈ wsX6_bestHeat := by decide +kernel
theorem fl_X6_bestHeat_12 : Cond.fieldLink RX6 12 (TX6 0).1 (TX6 0).2.1 (TX6 0).2.2.1 ∈ wsX6_bestHeat := by decide +kernel
abbrev rmX6_bestHeat : Room := { frames := 5, cells := 0, slots := 0, locals := 115 }
set_option maxHeartbeats 4000000 in
set_option maxRecDepth 100000 in
theorem k_X6_bestHeat (l : Launch) {k : gK} {L : List Nat} {f : Nat → va_E} {A : Nat → Nat} {q0 : PS} (hP : isPN k L f A q0) (hN : wOK q0.1)  : kR l k L f yX6_bestHeat wsX6_bestHeat rmX6_bestHeat [.ref (A 0)] (.int (vX6_bestHeat q0 )) := by
  refine kR_of (cc := cX6_bestHeat) (maxL := 1) (ret := (some .int)) (by decide) rfl (Nat.le_of_ble_eq_true rfl) ?_
  intro p e s m args below meth c C hr
  refine gx_lv [(0, _)] [0] rfl ?_
  refine gx_aload_n (q := 0) C dX6_bestHeat_0 rfl ?_
  refine gx_get C (i := 0) (isPN_in hP 0 (by decide)) (isPN_0 hP) rfl in_X6_bestHeat_6 (by decide) fl_X6_bestHeat_12 rfl dX6_bestHeat_1 ?_
  refine gx_callR C (k_X5_heatForMostPots l (isPN_now hP) hN ) (isPN_in hP 6 (by decide)) (isPN_now0 hP) rfl (cwV 0 C.2.2.2.2.1 gX6_bestHeat_X5_heatForMostPots rfl rfl rfl kdV_X5_heatForMostPots ⟨Nat.le_of_ble_eq_true rfl, Nat.le_of_ble_eq_true rfl⟩) rfl rfl (Nat.le_of_ble_eq_true rfl) ⟨Nat.le_of_ble_eq_true rfl, Nat.le_of_ble_eq_true rfl⟩ dX6_bestHeat_4 ?_
  exact gx_iretR C rfl hr dX6_bestHeat_7 (congrArg Value.int (rfl).symm)
theorem kdN_X6_firstFree : yX6_firstFree.cls ≠ "java/lang/invoke/MethodHandle" ∧ yX6_firstFree.cls ≠ "java/lang/invoke/VarHandle" ∧ (parseMethodDescriptor yX6_firstFree.desc).map (fun d => d.parameters.length) = some 2 := by decide +kernel
theorem kdV_X6_firstFree : yX6_firstFree.cls = RX6 ∧ yX6_firstFree.cls ≠ "java/lang/invoke/MethodHandle" ∧ yX6_firstFree.cls ≠ "java/lang/invoke/VarHandle" ∧ (parseMethodDescriptor yX6_firstFree.desc).map (fun d => d.parameters.length) = some 2 := ⟨rfl, kdN_X6_firstFree⟩
def vX6_firstFree (q0 : PS) (q : Int32) (what : Int32) : Int32 := (cFirst q0.1 q what)
theorem in_X6_firstFree_6 : ∀ w ∈ u_ws RX6 TX6 4, w ∈ wsX6_firstFree := by decide +kernel
theorem fl_X6_firstFree_12 : Cond.fieldLink RX6 12 (TX6 0).1 (TX6 0).2.1 (TX6 0).2.2.1 ∈ wsX6_firstFree := by decide +kernel
abbrev rmX6_firstFree : Room := { frames := 4, cells := 0, slots := 0, locals := 92 }
set_option maxHeartbeats 4000000 in
set_option maxRecDepth 100000 in
theorem k_X6_firstFree (l : Launch) {k : gK} {L : List Nat} {f : Nat → va_E} {A : Nat → Nat} {q0 : PS} (hP : isPN k L f A q0) (hN : wOK q0.1) (q : Int32) (what : Int32) : kR l k L f yX6_firstFree wsX6_firstFree rmX6_firstFree [.ref (A 0), .int q, .int what] (.int (vX6_firstFree q0 q what)) := by
  refine kR_of (cc := cX6_firstFree) (maxL := 3) (ret := (some .int)) (by decide) rfl (Nat.le_of_ble_eq_true rfl) ?_
  intro p e s m args below meth c C hr
  refine gx_lv [(0, _), (1, _), (2, _)] [0, 1, 2] rfl ?_
  refine gx_aload_n (q := 0) C dX6_firstFree_0 rfl ?_
  refine gx_get C (i := 0) (isPN_in hP 0 (by decide)) (isPN_0 hP) rfl in_X6_firstFree_6 (by decide) fl_X6_firstFree_12 rfl dX6_firstFree_1 ?_
  refine gx_iload_n (q := 1) C dX6_firstFree_4 rfl ?_
  refine gx_iload_n (q := 2) C dX6_firstFree_5 rfl ?_
  refine gx_callR C (k_X5_firstFreeNight l (isPN_now hP) _ _) (isPN_in hP 6 (by decide)) (isPN_now0 hP) rfl (cwV 2 C.2.2.2.2.1 gX6_firstFree_X5_firstFreeNight rfl rfl rfl kdV_X5_firstFreeNight ⟨Nat.le_of_ble_eq_true rfl, Nat.le_of_ble_eq_true rfl⟩) rfl rfl (Nat.le_of_ble_eq_true rfl) ⟨Nat.le_of_ble_eq_true rfl, Nat.le_of_ble_eq_true rfl⟩ dX6_firstFree_6 ?_
  exact gx_iretR C rfl hr dX6_firstFree_9 (congrArg Value.int (rfl).symm)
