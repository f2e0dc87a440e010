theorem kdN_X1_kept : yX1_kept.cls ≠ "java/lang/invoke/MethodHandle" ∧ yX1_kept.cls ≠ "java/lang/invoke/VarHandle" ∧ (parseMethodDescriptor yX1_kept.desc).map (fun d => d.parameters.length) = some 0 := by decide +kernel
theorem kdV_X1_kept : yX1_kept.cls = RX1 ∧ yX1_kept.cls ≠ "java/lang/invoke/MethodHandle" ∧ yX1_kept.cls ≠ "java/lang/invoke/VarHandle" ∧ (parseMethodDescriptor yX1_kept.desc).map (fun d => d.parameters.length) = some 0 := ⟨rfl, kdN_X1_kept⟩
def vX1_kept (q0 : PS)  : Int32 := (pH q0 1)
theorem in_X1_kept_1 : ∀ w ∈ u_ws RX1 TX1 3, w ∈ wsX1_kept := by decide +kernel
theorem fl_X1_kept_18 : Cond.fieldLink RX1 18 (TX1 2).1 (TX1 2).2.1 (TX1 2).2.2.1 ∈ wsX1_kept := by decide +kernel
abbrev rmX1_kept : Room := { frames := 0, cells := 0, slots := 0, locals := 0 }
set_option maxHeartbeats 4000000 in
set_option maxRecDepth 100000 in
theorem k_X1_kept (l : Launch) {k : gK} {L : List Nat} {f : Nat → va_E} {A : Nat → Nat} {q0 : PS} (hP : isPN k L f A q0)  : kR l k L f yX1_kept wsX1_kept rmX1_kept [.ref (A 1)] (.int (vX1_kept q0 )) := by
  refine kR_of (cc := cX1_kept) (maxL := 1) (ret := (some .int)) (by decide) rfl (Nat.le_of_ble_eq_true rfl) ?_
  intro p e s m args below meth c C hr
  refine gx_lv [(0, _)] [0] rfl ?_
  refine gx_aload_n (q := 0) C dX1_kept_0 rfl ?_
  refine gx_get C (i := 2) (isPN_in hP 1 (by decide)) (isPN_1 hP) rfl in_X1_kept_1 (by decide) fl_X1_kept_18 rfl dX1_kept_1 ?_
  exact gx_iretR C rfl hr dX1_kept_4 (congrArg Value.int (rfl).symm)
theorem kdN_X1_stateAt : yX1_stateAt.cls ≠ "java/lang/invoke/MethodHandle" ∧ yX1_stateAt.cls ≠ "java/lang/invoke/VarHandle" ∧ (parseMethodDescriptor yX1_stateAt.desc).map (fun d => d.parameters.length) = some 1 := by decide +kernel
theorem kdV_X1_stateAt : yX1_stateAt.cls = RX1 ∧ yX1_stateAt.cls ≠ "java/lang/invoke/MethodHandle" ∧ yX1_stateAt.cls ≠ "java/lang/invoke/VarHandle" ∧ (parseMethodDescriptor yX1_stateAt.desc).map (fun d => d.parameters.length) = some 1 := ⟨rfl, kdN_X1_stateAt⟩
theorem in_X1_stateAt_1 : ∀ w ∈ u_ws RX1 TX1 3, w ∈ wsX1_stateAt := by decide +kernel
theorem fl_X1_stateAt_13 : Cond.fieldLink RX1 13 (TX1 0).1 (TX1 0).2.1 (TX1 0).2.2.1 ∈ wsX1_stateAt := by decide +kernel
abbrev rmX1_stateAt : Room := { frames := 0, cells := 0, slots := 0, locals := 0 }
set_option maxHeartbeats 4000000 in
set_option maxRecDepth 100000 in
theorem k_X1_stateAt (l : Launch) {k : gK} {L : List Nat} {f : Nat → va_E} {A : Nat → Nat} {q0 : PS} (hP : isPN k L f A q0) (ij : Int32) {j : Nat} (hij : ij = nI j) (hj : j < 7) : kR l k L f yX1_stateAt wsX1_stateAt rmX1_stateAt [.ref (A 1), .int ij] (.ref (A (33 + 27 * j))) := by
  refine kR_of (cc := cX1_stateAt) (maxL := 2) (ret := (some (.object "PotteryNights$Workshop"))) (by decide) rfl (Nat.le_of_ble_eq_true rfl) ?_
  intro p e s m args below meth c C hr
  subst hij
  refine gx_lv [(0, _), (1, _)] [0, 1] rfl ?_
  refine gx_iload_n (q := 1) C dX1_stateAt_0 rfl ?_
  refine gx_if_lt (tgt := 22) C dX1_stateAt_1 (by decide) (fun c_1 => ?_) (fun c_1 => ?_)
  · skip
    exact absurd c_1 (nI_pos (by omega))
  · skip
    refine gx_iload_n (q := 1) C dX1_stateAt_4 rfl ?_
    refine gx_aload_n (q := 0) C dX1_stateAt_5 rfl ?_
    refine gx_get C (i := 0) (isPN_in hP 1 (by decide)) (isPN_1 hP) rfl in_X1_stateAt_1 (by decide) fl_X1_stateAt_13 rfl dX1_stateAt_6 ?_
    obtain ⟨gg, hg1, hg2⟩ := (hP).2.2.2.2.1
    refine gx_alenW C (isPN_in hP 2 (by decide)) hg1 dX1_stateAt_9 ?_
    refine gx_icmp_ge (tgt := 22) C dX1_stateAt_10 (by decide) (fun c_10 => ?_) (fun c_10 => ?_)
    · skip
      exact absurd ((nI_leI (a := 7) (b := j) (by decide) (by omega)).mp c_10) (by omega)
    · skip
      refine gx_aload_n (q := 0) C dX1_stateAt_13 rfl ?_
      refine gx_get C (i := 0) (isPN_in hP 1 (by decide)) (isPN_1 hP) rfl in_X1_stateAt_1 (by decide) fl_X1_stateAt_13 rfl dX1_stateAt_14 ?_
      obtain ⟨gg, hg1, hg2⟩ := (hP).2.2.2.2.1
      refine gx_iload_n (q := 1) C dX1_stateAt_17 rfl ?_
      refine gx_aald C (isPN_in hP 2 (by decide)) hg1 (vp_in_nI hj (by decide)) dX1_stateAt_18 ?_
      refine gx_topv (.ref (A (33 + 27 * j))) (by rw [nI_clamp (by omega), hg2 j hj]; rfl) ?_
      refine gx_goto (tgt := 23) C dX1_stateAt_19 (by decide) ?_
      exact gx_aretR C rfl hr (Or.inr ⟨_, rfl⟩) dX1_stateAt_23 (rfl)
theorem kdN_X1_prepare : yX1_prepare.cls ≠ "java/lang/invoke/MethodHandle" ∧ yX1_prepare.cls ≠ "java/lang/invoke/VarHandle" ∧ (parseMethodDescriptor yX1_prepare.desc).map (fun d => d.parameters.length) = some 1 := by decide +kernel
theorem kdV_X1_prepare : yX1_prepare.cls = RX1 ∧ yX1_prepare.cls ≠ "java/lang/invoke/MethodHandle" ∧ yX1_prepare.cls ≠ "java/lang/invoke/VarHandle" ∧ (parseMethodDescriptor yX1_prepare.desc).map (fun d => d.parameters.length) = some 1 := ⟨rfl, kdN_X1_prepare⟩
def pHK (q : PS) : Prop := pH q 0 = nI (cl (pH q 0)) ∧ cl (pH q 0) < 7
def wX1_prepare (q0 : PS)  : PS := (pwRing q0 (va_up (pRing q0) (cl (pH q0 0)) (wX5_copyFrom (pRing q0 (cl (pH q0 0))) (q0).1)))
theorem in_X1_prepare_1 : ∀ w ∈ u_ws RX1 TX1 3, w ∈ wsX1_prepare := by decide +kernel
theorem fl_X1_prepare_22 : Cond.fieldLink RX1 22 (TX1 1).1 (TX1 1).2.1 (TX1 1).2.2.1 ∈ wsX1_prepare := by decide +kernel
abbrev rmX1_prepare : Room := { frames := 4, cells := 0, slots := 0, locals := 103 }
set_option maxHeartbeats 4000000 in
set_option maxRecDepth 100000 in
theorem k_X1_prepare (l : Launch) {k : gK} {L : List Nat} {f : Nat → va_E} (hL : L.Nodup) {A : Nat → Nat} {q0 : PS} (hP : isPN k L f A q0) (hH : pHK q0)  : kM l k L f yX1_prepare wsX1_prepare rmX1_prepare [.ref (A 1), .ref (A 6)] (pP k L A none (wX1_prepare q0 )) := by
  refine kM_of (cc := cX1_prepare) (maxL := 3) (ret := none) (by decide) rfl (Nat.le_of_ble_eq_true rfl) ?_
  intro p e s m args below meth c C hr
  have hD : gD (fun q => q ∈ L) L := ⟨hL, fun _ h => h⟩
  refine gx_lv [(0, _), (1, _)] [0, 1] rfl ?_
  refine gx_aload_n (q := 0) C dX1_prepare_0 rfl ?_
  refine gx_aload_n (q := 0) C dX1_prepare_1 rfl ?_
  refine gx_get C (i := 1) (isPN_in hP 1 (by decide)) (isPN_1 hP) rfl in_X1_prepare_1 (by decide) fl_X1_prepare_22 rfl dX1_prepare_2 ?_
  have hH2 := hH.2
  refine gx_callR C (k_X1_stateAt l hP _ (j := (cl (pH q0 0))) hH.1 (by omega)) (isPN_in hP 1 (by decide)) (isPN_1 hP) rfl (cwV 1 C.2.2.2.2.1 gX1_prepare_X1_stateAt rfl rfl rfl kdV_X1_stateAt ⟨Nat.le_of_ble_eq_true rfl, Nat.le_of_ble_eq_true rfl⟩) rfl rfl (Nat.le_of_ble_eq_true rfl) ⟨Nat.le_of_ble_eq_true rfl, Nat.le_of_ble_eq_true rfl⟩ dX1_prepare_5 ?_
  refine gx_astore_n C (i := 2) [(2, _), (0, _), (1, _)] dX1_prepare_8 rfl (by decide) rfl ?_
  refine gx_aload_n (q := 0) C dX1_prepare_9 rfl ?_
  refine gx_ifnull C dX1_prepare_10 ?_
  refine gx_aload_n (q := 0) C dX1_prepare_13 rfl ?_
  refine gx_aload_n (q := 2) C dX1_prepare_14 rfl ?_
  refine gx_callR1 (cl (pH q0 0)) (by omega) C hD hP (k_X5_copyFrom l hL (isPN_ring hP (cl (pH q0 0)) (by omega)) (isPN_now hP) (fun i j hi hj e => by have := (hP).2.1 (6 + i) ((33 + 27 * (cl (pH q0 0))) + j) (Or.inl (by omega)) (Or.inl (by omega)) e; omega)) (isPN_in hP (33 + 27 * (cl (pH q0 0))) (by omega)) (isWS_0 (isPN_ring hP (cl (pH q0 0)) (by omega))) rfl (cwV 1 C.2.2.2.2.1 gX1_prepare_X5_copyFrom rfl rfl rfl kdV_X5_copyFrom ⟨Nat.le_of_ble_eq_true rfl, Nat.le_of_ble_eq_true rfl⟩) rfl rfl (Nat.le_of_ble_eq_true rfl) ⟨Nat.le_of_ble_eq_true rfl, Nat.le_of_ble_eq_true rfl⟩ dX1_prepare_15 (fun f_1 hP_1 => ?_)
  exact gx_vretP C hr hP_1 dX1_prepare_18 (rfl).symm
theorem kdN_X1_record : yX1_record.cls ≠ "java/lang/invoke/MethodHandle" ∧ yX1_record.cls ≠ "java/lang/invoke/VarHandle" ∧ (parseMethodDescriptor yX1_record.desc).map (fun d => d.parameters.length) = some 1 := by decide +kernel
theorem kdV_X1_record : yX1_record.cls = RX1 ∧ yX1_record.cls ≠ "java/lang/invoke/MethodHandle" ∧ yX1_record.cls ≠ "java/lang/invoke/VarHandle" ∧ (parseMethodDescriptor yX1_record.desc).map (fun d => d.parameters.length) = some 1 := ⟨rfl, kdN_X1_record⟩
def vX1_record (q0 : PS) (an : Int32) : Int32 := (if an < 0 then an else an)
def wX1_record (q0 : PS) (an : Int32) : PS := (if an < 0 then q0 else (pwH (pwH q0 (va_up (pH q0) 0 (((pH q0 0) + 1) - ((pH q0 0) + 1) / 7 * 7))) (va_up (pH (pwH q0 (va_up (pH q0) 0 (((pH q0 0) + 1) - ((pH q0 0) + 1) / 7 * 7)))) 1 (if 6 < ((pH (pwH q0 (va_up (pH q0) 0 (((pH q0 0) + 1) - ((pH q0 0) + 1) / 7 * 7))) 1) + 1) then 6 else ((pH (pwH q0 (va_up (pH q0) 0 (((pH q0 0) + 1) - ((pH q0 0) + 1) / 7 * 7))) 1) + 1)))))
theorem in_X1_record_1 : ∀ w ∈ u_ws RX1 TX1 3, w ∈ wsX1_record := by decide +kernel
theorem fl_X1_record_22 : Cond.fieldLink RX1 22 (TX1 1).1 (TX1 1).2.1 (TX1 1).2.2.1 ∈ wsX1_record := by decide +kernel
theorem fl_X1_record_18 : Cond.fieldLink RX1 18 (TX1 2).1 (TX1 2).2.1 (TX1 2).2.2.1 ∈ wsX1_record := by decide +kernel
theorem wd_X1_record_ml33 : Cond.methodLink RX1 33 Lib.Math.min.name ∈ wsX1_record := by decide +kernel
theorem wd_X1_record_ms_min : Cond.static Lib.Math.min.name ∈ wsX1_record := by decide +kernel
theorem wd_X1_record_mi : Cond.initialized "java/lang/Math" ∈ wsX1_record := by decide +kernel
theorem wd_X1_record_mc_min : Cond.code Lib.Math.min.name Lib.Math.min.code 2 (some .int) ∈ wsX1_record := by decide +kernel
abbrev rmX1_record : Room := { frames := 1, cells := 0, slots := 0, locals := 24 }
set_option maxHeartbeats 4000000 in
set_option maxRecDepth 100000 in
theorem k_X1_record (l : Launch) {k : gK} {L : List Nat} {f : Nat → va_E} (hL : L.Nodup) {A : Nat → Nat} {q0 : PS} (hP : isPN k L f A q0) (an : Int32) : kM l k L f yX1_record wsX1_record rmX1_record [.ref (A 1), .int an] (pP k L A (some (.int (vX1_record q0 an))) (wX1_record q0 an)) := by
  refine kM_of (cc := cX1_record) (maxL := 2) (ret := (some .int)) (by decide) rfl (Nat.le_of_ble_eq_true rfl) ?_
  intro p e s m args below meth c C hr
  have hD : gD (fun q => q ∈ L) L := ⟨hL, fun _ h => h⟩
  refine gx_lv [(0, _), (1, _)] [0, 1] rfl ?_
  refine gx_iload_n (q := 1) C dX1_record_0 rfl ?_
  refine gx_if_lt (tgt := 32) C dX1_record_1 (by decide) (fun c_1 => ?_) (fun c_1 => ?_)
  · skip
    refine gx_iload_n (q := 1) C dX1_record_32 rfl ?_
    exact gx_iretP C hr hP dX1_record_33 ((if_pos c_1).trans (rfl)).symm ((if_pos c_1).trans (rfl)).symm
  · skip
    refine gx_aload_n (q := 0) C dX1_record_4 rfl ?_
    refine gx_aload_n (q := 0) C dX1_record_5 rfl ?_
    refine gx_get C (i := 1) (isPN_in hP 1 (by decide)) (isPN_1 hP) rfl in_X1_record_1 (by decide) fl_X1_record_22 rfl dX1_record_6 ?_
    refine gx_iconst (v := 1) C dX1_record_9 (by decide) ?_
    refine gx_iadd C dX1_record_10 ?_
    refine gx_bipush (v := 7) C dX1_record_11 (by decide) ?_
    refine gx_irem C (by decide) dX1_record_13 ?_
    refine gx_put C hD (i := 1) (ty := .int) tyX1_ok nmX1 (isPN_in hP 1 (by decide)) (isPN_1 hP) rfl in_X1_record_1 (by decide) fl_X1_record_22 rfl (by decide +kernel) rfl rfl (Nat.le_of_ble_eq_true rfl) rfl dX1_record_14 ?_
    refine gx_H0 hP (fun f_1 hP_1 => ?_)
    refine gx_aload_n (q := 0) C dX1_record_17 rfl ?_
    refine gx_aload_n (q := 0) C dX1_record_18 rfl ?_
    refine gx_get C (i := 2) (isPN_in hP_1 1 (by decide)) (isPN_1 hP_1) rfl in_X1_record_1 (by decide) fl_X1_record_18 rfl dX1_record_19 ?_
    refine gx_iconst (v := 1) C dX1_record_22 (by decide) ?_
    refine gx_iadd C dX1_record_23 ?_
    refine gx_bipush (v := 6) C dX1_record_24 (by decide) ?_
    refine gx_min C wd_X1_record_ml33 wd_X1_record_ms_min wd_X1_record_mi wd_X1_record_mc_min (Nat.le_of_ble_eq_true rfl) (Nat.le_of_ble_eq_true rfl) ⟨Nat.le_of_ble_eq_true rfl, Nat.le_of_ble_eq_true rfl⟩ dX1_record_26 ?_
    refine gx_put C hD (i := 2) (ty := .int) tyX1_ok nmX1 (isPN_in hP_1 1 (by decide)) (isPN_1 hP_1) rfl in_X1_record_1 (by decide) fl_X1_record_18 rfl (by decide +kernel) rfl rfl (Nat.le_of_ble_eq_true rfl) rfl dX1_record_29 ?_
    refine gx_H1 hP_1 (fun f_2 hP_2 => ?_)
    refine gx_iload_n (q := 1) C dX1_record_32 rfl ?_
    exact gx_iretP C hr hP_2 dX1_record_33 ((if_neg c_1).trans (rfl)).symm ((if_neg c_1).trans (rfl)).symm
