theorem kdN_X7_doTakeHome : yX7_doTakeHome.cls ≠ "java/lang/invoke/MethodHandle" ∧ yX7_doTakeHome.cls ≠ "java/lang/invoke/VarHandle" ∧ (parseMethodDescriptor yX7_doTakeHome.desc).map (fun d => d.parameters.length) = some 1 := by decide +kernel
theorem kdV_X7_doTakeHome : yX7_doTakeHome.cls = RX7 ∧ yX7_doTakeHome.cls ≠ "java/lang/invoke/MethodHandle" ∧ yX7_doTakeHome.cls ≠ "java/lang/invoke/VarHandle" ∧ (parseMethodDescriptor yX7_doTakeHome.desc).map (fun d => d.parameters.length) = some 1 := ⟨rfl, kdN_X7_doTakeHome⟩
def hPu (y : MS) (i : Nat) : Prop := y.1 0 (35 + 9 * i) = nI (cl (y.1 0 (35 + 9 * i))) ∧ cl (y.1 0 (35 + 9 * i)) < 10
def vX7_doTakeHome (y : MS) (q : Int32) (i : Nat) : Int32 := ((y.1 0 (5)) * (y.1 0 (35 + 9 * i + 1)))
def wX7_doTakeHome (y : MS) (q : Int32) (i : Nat) : MS := (mRow (mRow (mRow (mRow y 0 (upd (y.1 0) (35 + 9 * i + 4) 2)) 0 (upd ((mRow y 0 (upd (y.1 0) (35 + 9 * i + 4) 2)).1 0) (35 + 9 * i + 5) (-6))) 0 (upd ((mRow (mRow y 0 (upd (y.1 0) (35 + 9 * i + 4) 2)) 0 (upd ((mRow y 0 (upd (y.1 0) (35 + 9 * i + 4) 2)).1 0) (35 + 9 * i + 5) (-6))).1 0) (10) (((mRow (mRow y 0 (upd (y.1 0) (35 + 9 * i + 4) 2)) 0 (upd ((mRow y 0 (upd (y.1 0) (35 + 9 * i + 4) 2)).1 0) (35 + 9 * i + 5) (-6))).1 0 (10)) + ((y.1 0 (5)) * (y.1 0 (35 + 9 * i + 1)))))) 0 (upd ((mRow (mRow (mRow y 0 (upd (y.1 0) (35 + 9 * i + 4) 2)) 0 (upd ((mRow y 0 (upd (y.1 0) (35 + 9 * i + 4) 2)).1 0) (35 + 9 * i + 5) (-6))) 0 (upd ((mRow (mRow y 0 (upd (y.1 0) (35 + 9 * i + 4) 2)) 0 (upd ((mRow y 0 (upd (y.1 0) (35 + 9 * i + 4) 2)).1 0) (35 + 9 * i + 5) (-6))).1 0) (10) (((mRow (mRow y 0 (upd (y.1 0) (35 + 9 * i + 4) 2)) 0 (upd ((mRow y 0 (upd (y.1 0) (35 + 9 * i + 4) 2)).1 0) (35 + 9 * i + 5) (-6))).1 0 (10)) + ((y.1 0 (5)) * (y.1 0 (35 + 9 * i + 1)))))).1 0) (15 + (cl (y.1 0 (35 + 9 * i)))) (((mRow (mRow (mRow y 0 (upd (y.1 0) (35 + 9 * i + 4) 2)) 0 (upd ((mRow y 0 (upd (y.1 0) (35 + 9 * i + 4) 2)).1 0) (35 + 9 * i + 5) (-6))) 0 (upd ((mRow (mRow y 0 (upd (y.1 0) (35 + 9 * i + 4) 2)) 0 (upd ((mRow y 0 (upd (y.1 0) (35 + 9 * i + 4) 2)).1 0) (35 + 9 * i + 5) (-6))).1 0) (10) (((mRow (mRow y 0 (upd (y.1 0) (35 + 9 * i + 4) 2)) 0 (upd ((mRow y 0 (upd (y.1 0) (35 + 9 * i + 4) 2)).1 0) (35 + 9 * i + 5) (-6))).1 0 (10)) + ((y.1 0 (5)) * (y.1 0 (35 + 9 * i + 1)))))).1 0 (15 + (cl (y.1 0 (35 + 9 * i))))) + ((y.1 0 (5)) * (y.1 0 (35 + 9 * i + 1))))))
theorem in_X7_doTakeHome_7 : ∀ w ∈ u_ws RX7 TX7 13, w ∈ wsX7_doTakeHome := by decide +kernel
theorem fl_X7_doTakeHome_7 : Cond.fieldLink RX7 7 (TX7 0).1 (TX7 0).2.1 (TX7 0).2.2.1 ∈ wsX7_doTakeHome := by decide +kernel
abbrev rmX7_doTakeHome : Room := { frames := 1, cells := 0, slots := 0, locals := 23 }
set_option maxHeartbeats 4000000 in
set_option maxRecDepth 100000 in
theorem k_X7_doTakeHome (l : Launch) {k : gK} {L : List Nat} {f : Nat → va_E} (hL : L.Nodup) {o : Nat → Nat} {y : MS} (hW : isMS k L f o y) (q : Int32) {i : Nat} (hq : q = nI i) (hq2 : i < 20) (hP : hPu y i) : kM l k L f yX7_doTakeHome wsX7_doTakeHome rmX7_doTakeHome [.ref (o 0), .int q] (mP k L o f (some (.int (vX7_doTakeHome y q i))) (wX7_doTakeHome y q i)) := by
  refine kM_of (cc := cX7_doTakeHome) (maxL := 3) (ret := (some .int)) (by decide) rfl (Nat.le_of_ble_eq_true rfl) ?_
  intro p e s m args below meth c C hr
  have hD : gD (fun q => q ∈ L) L := ⟨hL, fun _ h => h⟩
  refine gx_lv [(0, _), (1, _)] [0, 1] rfl ?_
  refine gx_aload_n (q := 0) C dX7_doTakeHome_0 rfl ?_
  refine gx_get C (i := 0) (isMS_in hW 0 (Nat.le_of_ble_eq_true rfl)) (isMS_0 hW) rfl in_X7_doTakeHome_7 (by decide) fl_X7_doTakeHome_7 rfl dX7_doTakeHome_1 ?_
  refine gx_iconst (v := 5) C dX7_doTakeHome_4 (by decide) ?_
  refine gx_ialdN C (isMS_in hW 1 (Nat.le_of_ble_eq_true rfl)) (isMS_a0 hW) (nLit 5) (by omega) (by decide) dX7_doTakeHome_5 ?_
  refine gx_aload_n (q := 0) C dX7_doTakeHome_6 rfl ?_
  refine gx_iload_n (q := 1) C dX7_doTakeHome_7 rfl ?_
  refine gx_iconst (v := 1) C dX7_doTakeHome_8 (by decide) ?_
  refine gx_callR C (k_X7_pot l hW _ _ (i := i) hq (by omega) (j := 1) (nLit 1) (by omega)) (isMS_in hW 0 (Nat.le_of_ble_eq_true rfl)) (isMS_0 hW) rfl (cwV 2 C.2.2.2.2.1 gX7_doTakeHome_X7_pot rfl rfl rfl kdV_X7_pot ⟨Nat.le_of_ble_eq_true rfl, Nat.le_of_ble_eq_true rfl⟩) rfl rfl (Nat.le_of_ble_eq_true rfl) ⟨Nat.le_of_ble_eq_true rfl, Nat.le_of_ble_eq_true rfl⟩ dX7_doTakeHome_9 ?_
  refine gx_imul C dX7_doTakeHome_12 ?_
  refine gx_istore_n C (i := 2) [(2, _), (0, _), (1, _)] dX7_doTakeHome_13 rfl (by decide) rfl ?_
  refine gx_aload_n (q := 1) C dX7_doTakeHome_14 rfl ?_
  refine gx_iload_n (q := 2) C dX7_doTakeHome_15 rfl ?_
  refine gx_iconst (v := 4) C dX7_doTakeHome_16 (by decide) ?_
  refine gx_iconst (v := 2) C dX7_doTakeHome_17 (by decide) ?_
  refine gx_callSv C hD (gFr_rf (f := f)) (k_X7_put l hL hW _ _ _ (i := i) hq (by omega) (j := 4) (nLit 4) (by omega)) (isMS_in hW 0 (Nat.le_of_ble_eq_true rfl)) (isMS_0 hW) rfl (cwV 3 C.2.2.2.2.1 gX7_doTakeHome_X7_put rfl rfl rfl kdV_X7_put ⟨Nat.le_of_ble_eq_true rfl, Nat.le_of_ble_eq_true rfl⟩) rfl rfl (Nat.le_of_ble_eq_true rfl) ⟨Nat.le_of_ble_eq_true rfl, Nat.le_of_ble_eq_true rfl⟩ dX7_doTakeHome_18 (fun f_1 hW_1 hF_1 => ?_)
  refine gx_aload_n (q := 1) C dX7_doTakeHome_21 rfl ?_
  refine gx_iload_n (q := 2) C dX7_doTakeHome_22 rfl ?_
  refine gx_iconst (v := 5) C dX7_doTakeHome_23 (by decide) ?_
  refine gx_bipush (v := (-6)) C dX7_doTakeHome_24 (by decide) ?_
  refine gx_callSv C hD hF_1 (k_X7_put l hL hW_1 _ _ _ (i := i) hq (by omega) (j := 5) (nLit 5) (by omega)) (isMS_in hW_1 0 (Nat.le_of_ble_eq_true rfl)) (isMS_0 hW_1) rfl (cwV 3 C.2.2.2.2.1 gX7_doTakeHome_X7_put rfl rfl rfl kdV_X7_put ⟨Nat.le_of_ble_eq_true rfl, Nat.le_of_ble_eq_true rfl⟩) rfl rfl (Nat.le_of_ble_eq_true rfl) ⟨Nat.le_of_ble_eq_true rfl, Nat.le_of_ble_eq_true rfl⟩ dX7_doTakeHome_26 (fun f_2 hW_2 hF_2 => ?_)
  refine gx_aload_n (q := 1) C dX7_doTakeHome_29 rfl ?_
  refine gx_get C (i := 0) (isMS_in hW_2 0 (Nat.le_of_ble_eq_true rfl)) (isMS_0 hW_2) rfl in_X7_doTakeHome_7 (by decide) fl_X7_doTakeHome_7 rfl dX7_doTakeHome_30 ?_
  refine gx_bipush (v := 10) C dX7_doTakeHome_33 (by decide) ?_
  refine gx_dup2 C dX7_doTakeHome_35 rfl rfl ?_
  refine gx_ialdN C (isMS_in hW_2 1 (Nat.le_of_ble_eq_true rfl)) (isMS_a0 hW_2) (nLit 10) (by omega) (by decide) dX7_doTakeHome_36 ?_
  refine gx_iload_n (q := 0) C dX7_doTakeHome_37 rfl ?_
  refine gx_iadd C dX7_doTakeHome_38 ?_
  refine gx_iastN C hD (isMS_in hW_2 1 (Nat.le_of_ble_eq_true rfl)) (isMS_a0 hW_2) (nLit 10) (by omega) (by decide) dX7_doTakeHome_39 ?_
  refine gx_Su0 hW_2 hF_2 (fun f_3 hW_3 hF_3 => ?_)
  refine gx_aload_n (q := 1) C dX7_doTakeHome_40 rfl ?_
  refine gx_get C (i := 0) (isMS_in hW_3 0 (Nat.le_of_ble_eq_true rfl)) (isMS_0 hW_3) rfl in_X7_doTakeHome_7 (by decide) fl_X7_doTakeHome_7 rfl dX7_doTakeHome_41 ?_
  refine gx_bipush (v := 15) C dX7_doTakeHome_44 (by decide) ?_
  refine gx_aload_n (q := 1) C dX7_doTakeHome_46 rfl ?_
  refine gx_iload_n (q := 2) C dX7_doTakeHome_47 rfl ?_
  refine gx_iconst (v := 0) C dX7_doTakeHome_48 (by decide) ?_
  refine gx_callR C (k_X7_pot l hW_3 _ _ (i := i) hq (by omega) (j := 0) (nLit 0) (by omega)) (isMS_in hW_3 0 (Nat.le_of_ble_eq_true rfl)) (isMS_0 hW_3) rfl (cwV 2 C.2.2.2.2.1 gX7_doTakeHome_X7_pot rfl rfl rfl kdV_X7_pot ⟨Nat.le_of_ble_eq_true rfl, Nat.le_of_ble_eq_true rfl⟩) rfl rfl (Nat.le_of_ble_eq_true rfl) ⟨Nat.le_of_ble_eq_true rfl, Nat.le_of_ble_eq_true rfl⟩ dX7_doTakeHome_49 ?_
  refine gx_top (y.1 0 (35 + 9 * i)) (by first | rfl | exact (if_neg (by omega)).trans ((if_neg (by omega)).trans (if_neg (by omega)))) ?_
  have hP2 := hP.2
  refine gx_iadd C dX7_doTakeHome_52 ?_
  refine gx_dup2 C dX7_doTakeHome_53 rfl rfl ?_
  refine gx_ialdN C (isMS_in hW_3 1 (Nat.le_of_ble_eq_true rfl)) (isMS_a0 hW_3) (nAdd (nLit 15) hP.1) (by omega) (by decide) dX7_doTakeHome_54 ?_
  refine gx_iload_n (q := 0) C dX7_doTakeHome_55 rfl ?_
  refine gx_iadd C dX7_doTakeHome_56 ?_
  refine gx_iastN C hD (isMS_in hW_3 1 (Nat.le_of_ble_eq_true rfl)) (isMS_a0 hW_3) (nAdd (nLit 15) hP.1) (by omega) (by decide) dX7_doTakeHome_57 ?_
  refine gx_Su0 hW_3 hF_3 (fun f_4 hW_4 hF_4 => ?_)
  refine gx_iload_n (q := 0) C dX7_doTakeHome_58 rfl ?_
  exact gx_iretS C hr hW_4 hF_4 dX7_doTakeHome_59 (rfl).symm (rfl).symm
theorem kdN_X7_takeHome : yX7_takeHome.cls ≠ "java/lang/invoke/MethodHandle" ∧ yX7_takeHome.cls ≠ "java/lang/invoke/VarHandle" ∧ (parseMethodDescriptor yX7_takeHome.desc).map (fun d => d.parameters.length) = some 1 := by decide +kernel
theorem kdV_X7_takeHome : yX7_takeHome.cls = RX7 ∧ yX7_takeHome.cls ≠ "java/lang/invoke/MethodHandle" ∧ yX7_takeHome.cls ≠ "java/lang/invoke/VarHandle" ∧ (parseMethodDescriptor yX7_takeHome.desc).map (fun d => d.parameters.length) = some 1 := ⟨rfl, kdN_X7_takeHome⟩
theorem noTake_ok {y : MS} {q : Int32} (h : 0 ≤ vX7_noTakeHome y q) : vX7_isPot y q = true := by
  unfold vX7_noTakeHome at h
  by_cases a : vX7_isPot y q = true
  · exact a
  · rw [if_neg a] at h; exact absurd h (by decide)
def vX7_takeHome (y : MS) (q : Int32) : Int32 := (if 0 ≤ (vX7_noTakeHome y q) then (vX7_doTakeHome (mRec y) q (cl q)) else (vX7_noTakeHome y q))
def wX7_takeHome (y : MS) (q : Int32) : MS := (if 0 ≤ (vX7_noTakeHome y q) then (wX7_doTakeHome (mRec y) q (cl q)) else y)
abbrev rmX7_takeHome : Room := { frames := 3, cells := 0, slots := 0, locals := 64 }
set_option maxHeartbeats 4000000 in
set_option maxRecDepth 100000 in
theorem k_X7_takeHome (l : Launch) {k : gK} {L : List Nat} {f : Nat → va_E} (hL : L.Nodup) {o : Nat → Nat} {y : MS} (hW : isMS k L f o y) (hM : mOK y) (hK : mKK y) (hPa : ∀ i, i < mN y → hPu y i) (q : Int32) : kM l k L f yX7_takeHome wsX7_takeHome rmX7_takeHome [.ref (o 0), .int q] (mP k L o f (some (.int (vX7_takeHome y q))) (wX7_takeHome y q)) := by
  refine kM_of (cc := cX7_takeHome) (maxL := 3) (ret := (some .int)) (by decide) rfl (Nat.le_of_ble_eq_true rfl) ?_
  intro p e s m args below meth c C hr
  have hD : gD (fun q => q ∈ L) L := ⟨hL, fun _ h => h⟩
  refine gx_lv [(0, _), (1, _)] [0, 1] rfl ?_
  refine gx_aload_n (q := 0) C dX7_takeHome_0 rfl ?_
  refine gx_iload_n (q := 1) C dX7_takeHome_1 rfl ?_
  refine gx_callR C (k_X7_noTakeHome l hW hM _) (isMS_in hW 0 (Nat.le_of_ble_eq_true rfl)) (isMS_0 hW) rfl (cwV 1 C.2.2.2.2.1 gX7_takeHome_X7_noTakeHome rfl rfl rfl kdV_X7_noTakeHome ⟨Nat.le_of_ble_eq_true rfl, Nat.le_of_ble_eq_true rfl⟩) rfl rfl (Nat.le_of_ble_eq_true rfl) ⟨Nat.le_of_ble_eq_true rfl, Nat.le_of_ble_eq_true rfl⟩ dX7_takeHome_2 ?_
  refine gx_istore_n C (i := 2) [(2, _), (0, _), (1, _)] dX7_takeHome_5 rfl (by decide) rfl ?_
  refine gx_iload_n (q := 0) C dX7_takeHome_6 rfl ?_
  refine gx_if_ge (tgt := 12) C dX7_takeHome_7 (by decide) (fun c_7 => ?_) (fun c_7 => ?_)
  · skip
    obtain ⟨n_q, b_q⟩ := mPot hM (noTake_ok c_7)
    have bb_q := (hM).2
    have hPu1 : hPu (mRec y) (cl q) := hPa (cl q) b_q
    refine gx_aload_n (q := 1) C dX7_takeHome_12 rfl ?_
    refine gx_callSv C hD (gFr_rf (f := f)) (k_X7_record l hL hW hK) (isMS_in hW 0 (Nat.le_of_ble_eq_true rfl)) (isMS_0 hW) rfl (cwV 0 C.2.2.2.2.1 gX7_takeHome_X7_record rfl rfl rfl kdV_X7_record ⟨Nat.le_of_ble_eq_true rfl, Nat.le_of_ble_eq_true rfl⟩) rfl rfl (Nat.le_of_ble_eq_true rfl) ⟨Nat.le_of_ble_eq_true rfl, Nat.le_of_ble_eq_true rfl⟩ dX7_takeHome_13 (fun f_1 hW_1 hF_1 => ?_)
    refine gx_aload_n (q := 1) C dX7_takeHome_16 rfl ?_
    refine gx_iload_n (q := 2) C dX7_takeHome_17 rfl ?_
    refine gx_callSi C hD hF_1 (k_X7_doTakeHome l hL hW_1 _ (i := (cl q)) n_q (by omega) hPu1) (isMS_in hW_1 0 (Nat.le_of_ble_eq_true rfl)) (isMS_0 hW_1) rfl (cwV 1 C.2.2.2.2.1 gX7_takeHome_X7_doTakeHome rfl rfl rfl kdV_X7_doTakeHome ⟨Nat.le_of_ble_eq_true rfl, Nat.le_of_ble_eq_true rfl⟩) rfl rfl (Nat.le_of_ble_eq_true rfl) ⟨Nat.le_of_ble_eq_true rfl, Nat.le_of_ble_eq_true rfl⟩ dX7_takeHome_18 (fun f_2 hW_2 hF_2 => ?_)
    exact gx_iretS C hr hW_2 hF_2 dX7_takeHome_21 ((if_pos c_7).trans (rfl)).symm ((if_pos c_7).trans (rfl)).symm
  · skip
    refine gx_iload_n (q := 0) C dX7_takeHome_10 rfl ?_
    exact gx_iretS C hr hW (gFr_rf (f := f)) dX7_takeHome_11 ((if_neg c_7).trans (rfl)).symm ((if_neg c_7).trans (rfl)).symm
theorem kdN_X7_noPass : yX7_noPass.cls ≠ "java/lang/invoke/MethodHandle" ∧ yX7_noPass.cls ≠ "java/lang/invoke/VarHandle" ∧ (parseMethodDescriptor yX7_noPass.desc).map (fun d => d.parameters.length) = some 1 := by decide +kernel
theorem kdV_X7_noPass : yX7_noPass.cls = RX7 ∧ yX7_noPass.cls ≠ "java/lang/invoke/MethodHandle" ∧ yX7_noPass.cls ≠ "java/lang/invoke/VarHandle" ∧ (parseMethodDescriptor yX7_noPass.desc).map (fun d => d.parameters.length) = some 1 := ⟨rfl, kdN_X7_noPass⟩
def vX7_noPass (y : MS) (n : Int32) : Int32 := (if (isW n 1 20) = true then (if ((y.1 0 (0)) + n) ≤ 999 then 0 else (-5)) else (-2))
theorem in_X7_noPass_7 : ∀ w ∈ u_ws RX7 TX7 13, w ∈ wsX7_noPass := by decide +kernel
theorem fl_X7_noPass_7 : Cond.fieldLink RX7 7 (TX7 0).1 (TX7 0).2.1 (TX7 0).2.2.1 ∈ wsX7_noPass := by decide +kernel
abbrev rmX7_noPass : Room := { frames := 1, cells := 0, slots := 0, locals := 22 }
set_option maxHeartbeats 4000000 in
set_option maxRecDepth 100000 in
theorem k_X7_noPass (l : Launch) {k : gK} {L : List Nat} {f : Nat → va_E} {o : Nat → Nat} {y : MS} (hW : isMS k L f o y) (n : Int32) : kR l k L f yX7_noPass wsX7_noPass rmX7_noPass [.ref (o 0), .int n] (.int (vX7_noPass y n)) := by
  refine kR_of (cc := cX7_noPass) (maxL := 2) (ret := (some .int)) (by decide) rfl (Nat.le_of_ble_eq_true rfl) ?_
  intro p e s m args below meth c C hr
  refine gx_lv [(0, _), (1, _)] [0, 1] rfl ?_
  refine gx_iload_n (q := 1) C dX7_noPass_0 rfl ?_
  refine gx_iconst (v := 1) C dX7_noPass_1 (by decide) ?_
  refine gx_bipush (v := 20) C dX7_noPass_2 (by decide) ?_
  refine gx_callRS C (k_X7_in l (k := k) (L := L) _ _ _) (va_cwS 3 C.2.2.2.2.1 gX7_noPass_X7_in rfl rfl rfl kdN_X7_in ⟨Nat.le_of_ble_eq_true rfl, Nat.le_of_ble_eq_true rfl⟩) rfl rfl (Nat.le_of_ble_eq_true rfl) ⟨Nat.le_of_ble_eq_true rfl, Nat.le_of_ble_eq_true rfl⟩ dX7_noPass_4 ?_
  refine gx_if_ne (tgt := 15) C dX7_noPass_7 (by decide) (fun c_7 => ?_) (fun c_7 => ?_)
  · skip
    have h_7 := bI1.mp c_7
    refine gx_aload_n (q := 0) C dX7_noPass_15 rfl ?_
    refine gx_get C (i := 0) (isMS_in hW 0 (Nat.le_of_ble_eq_true rfl)) (isMS_0 hW) rfl in_X7_noPass_7 (by decide) fl_X7_noPass_7 rfl dX7_noPass_16 ?_
    refine gx_iconst (v := 0) C dX7_noPass_19 (by decide) ?_
    refine gx_ialdN C (isMS_in hW 1 (Nat.le_of_ble_eq_true rfl)) (isMS_a0 hW) (nLit 0) (by omega) (by decide) dX7_noPass_20 ?_
    refine gx_iload_n (q := 1) C dX7_noPass_21 rfl ?_
    refine gx_iadd C dX7_noPass_22 ?_
    refine gx_sipush (v := 999) C dX7_noPass_23 (by decide) ?_
    refine gx_icmp_le (tgt := 34) C dX7_noPass_26 (by decide) (fun c_26 => ?_) (fun c_26 => ?_)
    · skip
      refine gx_iconst (v := 0) C dX7_noPass_34 (by decide) ?_
      exact gx_iretR C rfl hr dX7_noPass_35 (congrArg Value.int ((if_pos h_7).trans ((if_pos c_26).trans (rfl))).symm)
    · skip
      refine gx_bipush (v := (-5)) C dX7_noPass_29 (by decide) ?_
      refine gx_goto (tgt := 35) C dX7_noPass_31 (by decide) ?_
      exact gx_iretR C rfl hr dX7_noPass_35 (congrArg Value.int ((if_pos h_7).trans ((if_neg c_26).trans (rfl))).symm)
  · skip
    have h_7 := bI0.mp c_7
    refine gx_bipush (v := (-2)) C dX7_noPass_10 (by decide) ?_
    refine gx_goto (tgt := 35) C dX7_noPass_12 (by decide) ?_
    exact gx_iretR C rfl hr dX7_noPass_35 (congrArg Value.int ((if_neg (bF h_7)).trans (rfl)).symm)
theorem kdN_X7_night : yX7_night.cls ≠ "java/lang/invoke/MethodHandle" ∧ yX7_night.cls ≠ "java/lang/invoke/VarHandle" ∧ (parseMethodDescriptor yX7_night.desc).map (fun d => d.parameters.length) = some 0 := by decide +kernel
theorem kdV_X7_night : yX7_night.cls = RX7 ∧ yX7_night.cls ≠ "java/lang/invoke/MethodHandle" ∧ yX7_night.cls ≠ "java/lang/invoke/VarHandle" ∧ (parseMethodDescriptor yX7_night.desc).map (fun d => d.parameters.length) = some 0 := ⟨rfl, kdN_X7_night⟩
def zD1 (y : MS) (i : Nat) : MS := if y.1 0 (35 + 9 * i + 3) = 0 then (if y.1 0 (35 + 9 * i + 4) = 0 then mRow y 0 (upd (y.1 0) (35 + 9 * i + 6) (y.1 0 (35 + 9 * i + 6) + (if 8 ≤ y.1 0 (35 + 9 * i + 5) then 1 else 2))) else y) else y
def zDN (y : MS) : Nat → MS
  | 0 => y
  | i + 1 => zD1 (zDN y i) i
theorem zD1_7 (y : MS) (i : Nat) : (zD1 y i).1 0 7 = y.1 0 7 := by
  unfold zD1
  split
  · split
    · exact mRow7 _ _ (by omega)
    · rfl
  · rfl
theorem zDN_7 (y : MS) : ∀ i, (zDN y i).1 0 7 = y.1 0 7
  | 0 => rfl
  | i + 1 => (zD1_7 _ i).trans (zDN_7 y i)
def nb (g : Nat → Int32) (n : Nat) : Nat → Int32 := fun j => if 215 ≤ j ∧ j < 215 + n then (if (j - 215) % 21 = 20 then -6 else g (j + 1)) else g j
theorem nb_0 (g : Nat → Int32) : nb g 0 = g := by
  funext j
  unfold nb
  rw [if_neg (by omega)]
theorem nb_s (g : Nat → Int32) (n : Nat) {j : Nat} {x : Int32} (hj : j = 215 + n) (hx : x = if n % 21 = 20 then -6 else g (215 + n + 1)) : nb g (n + 1) = upd (nb g n) j x := by
  subst hj; subst hx
  funext q
  unfold nb upd
  by_cases h : q = 215 + n
  · subst h
    rw [if_pos rfl, if_pos (by omega), show 215 + n - 215 = n by omega]
  · rw [if_neg h]
    dsimp only
    by_cases h2 : 215 ≤ q ∧ q < 215 + n
    · rw [if_pos h2, if_pos (by omega)]
    · rw [if_neg h2, if_neg (by omega)]
theorem nb_out (g : Nat → Int32) (n : Nat) {j : Nat} (h : 215 + n ≤ j) : nb g n j = g j := by
  unfold nb
  rw [if_neg (by omega)]
def zN1 (y : MS) : MS := zDN y (mN y)
def zN2 (y : MS) (n : Nat) : MS := mRow (zN1 y) 0 (nb ((zN1 y).1 0) n)
def zN3 (y : MS) (n : Nat) : MS := mRow (zN2 y 105) 0 (va_cpy (fun _ => 0) ((zN2 y 105).1 0) 0 25 n)
def zNight (y : MS) : MS := mRow (zN3 y 10) 0 (upd ((zN3 y 10).1 0) 0 ((zN3 y 10).1 0 0 + 1))
theorem zN2_0 (y : MS) : zN2 y 0 = zN1 y := by
  unfold zN2
  rw [nb_0]
  exact mS_id _ 0
theorem zN2_s (y : MS) (n : Nat) {j : Nat} {x : Int32} (hj : j = 215 + n) (hx : x = if n % 21 = 20 then -6 else (zN1 y).1 0 (215 + n + 1)) : zN2 y (n + 1) = mRow (zN2 y n) 0 (upd ((zN2 y n).1 0) j x) := by
  unfold zN2
  show (va_up (zN1 y).1 0 _, (zN1 y).2) = (va_up (va_up (zN1 y).1 0 (nb ((zN1 y).1 0) n)) 0 (upd (va_up (zN1 y).1 0 (nb ((zN1 y).1 0) n) 0) j x), (zN1 y).2)
  rw [va_up_2, va_up_at, nb_s _ n hj hx]
theorem zN2_at (y : MS) (n : Nat) {j : Nat} (h : 215 + n ≤ j) : (zN2 y n).1 0 j = (zN1 y).1 0 j := nb_out _ _ h
theorem in_X7_night_7 : ∀ w ∈ u_ws RX7 TX7 13, w ∈ wsX7_night := by decide +kernel
theorem fl_X7_night_7 : Cond.fieldLink RX7 7 (TX7 0).1 (TX7 0).2.1 (TX7 0).2.2.1 ∈ wsX7_night := by decide +kernel
abbrev rmX7_night : Room := { frames := 1, cells := 0, slots := 0, locals := 23 }
set_option maxHeartbeats 4000000 in
set_option maxRecDepth 100000 in
theorem k_X7_night (l : Launch) {k : gK} {L : List Nat} {f : Nat → va_E} (hL : L.Nodup) {o : Nat → Nat} {y : MS} (hW : isMS k L f o y) (hM : mOK y)  : kM l k L f yX7_night wsX7_night rmX7_night [.ref (o 0)] (mP k L o f none (zNight y)) := by
  refine kM_of (cc := cX7_night) (maxL := 3) (ret := none) (by decide) rfl (Nat.le_of_ble_eq_true rfl) ?_
  intro p e s m args below meth c C hr
  have hD : gD (fun q => q ∈ L) L := ⟨hL, fun _ h => h⟩
  refine gx_lv [(0, _)] [0] rfl ?_
  refine gx_iconst (v := 0) C dX7_night_0 (by decide) ?_
  refine gx_istore_n C (i := 1) [(1, _), (0, _)] dX7_night_1 rfl (by decide) rfl ?_
  refine gx_loop (σ := Nat × (Nat → va_E)) (fun z => z.2) (fun z => [(0, .ref (o 0)), (1, .int (nI z.1))]) (fun z => z.1 ≤ mN y ∧ isMS k L z.2 o (zDN y z.1) ∧ gFr o 6 f z.2) (fun z => mN y - z.1) (0, _) [1, 0] rfl rfl ?_ ?_
  · exact ⟨Nat.zero_le _, hW, (gFr_rf (f := f))⟩
  intro ⟨i, fi⟩ ⟨hI, hWi, hFi⟩ ih
  try dsimp only at hI hWi hFi ih ⊢
  refine gx_iload_n (q := 1) C dX7_night_2 rfl ?_
  refine gx_aload_n (q := 0) C dX7_night_3 rfl ?_
  refine gx_get C (i := 0) (isMS_in hWi 0 (Nat.le_of_ble_eq_true rfl)) (isMS_0 hWi) rfl in_X7_night_7 (by decide) fl_X7_night_7 rfl dX7_night_4 ?_
  refine gx_bipush (v := 7) C dX7_night_7 (by decide) ?_
  refine gx_ialdN C (isMS_in hWi 1 (Nat.le_of_ble_eq_true rfl)) (isMS_a0 hWi) (nLit 7) (by omega) (by decide) dX7_night_9 ?_
  refine gx_top (nI (mN y)) (by rw [zDN_7]; exact hM.1) ?_
  refine gx_icmp_ge (tgt := 68) C dX7_night_10 (by decide) (fun c_10 => ?_) (fun c_10 => ?_)
  · skip
    have hb : i = mN y := Nat.le_antisymm hI ((nI_leI (by have := hM.2; omega) (by have := hM.2; omega)).mp c_10)
    subst hb
    refine gx_iconst (v := 0) C dX7_night_68 (by decide) ?_
    refine gx_istore_n C (i := 1) [(1, _), (0, _)] dX7_night_69 rfl (by decide) rfl ?_
    refine gx_loop (σ := Nat × (Nat → va_E)) (fun z => z.2) (fun z => [(0, .ref (o 0)), (1, .int (nI z.1))]) (fun z => z.1 ≤ 5 ∧ isMS k L z.2 o (zN2 y (21 * z.1)) ∧ gFr o 6 f z.2) (fun z => 5 - z.1) (0, _) [1, 0] rfl rfl ?_ ?_
    · exact ⟨Nat.zero_le _, (isMS_same hWi (zN2_0 y)), hFi⟩
    intro ⟨i, fi⟩ ⟨hI, hWi, hFi⟩ ih
    try dsimp only at hI hWi hFi ih ⊢
    refine gx_iload_n (q := 1) C dX7_night_70 rfl ?_
    refine gx_iconst (v := 5) C dX7_night_71 (by decide) ?_
    refine gx_icmp_ge (tgt := 131) C dX7_night_72 (by decide) (fun c_72 => ?_) (fun c_72 => ?_)
    · skip
      have hb : i = 5 := Nat.le_antisymm hI ((nI_leI (a := 5) (b := i) (by decide) (by omega)).mp c_72)
      subst hb
      refine gx_iconst (v := 0) C dX7_night_131 (by decide) ?_
      refine gx_istore_n C (i := 1) [(1, _), (0, _)] dX7_night_132 rfl (by decide) rfl ?_
      refine gx_loop (σ := Nat × (Nat → va_E)) (fun z => z.2) (fun z => [(0, .ref (o 0)), (1, .int (nI z.1))]) (fun z => z.1 ≤ 10 ∧ isMS k L z.2 o (zN3 y z.1) ∧ gFr o 6 f z.2) (fun z => 10 - z.1) (0, _) [1, 0] rfl rfl ?_ ?_
      · exact ⟨Nat.zero_le _, (isMS_same hWi (mRow_0 (zN2 y 105) 0 _ _ _)), hFi⟩
      intro ⟨i, fi⟩ ⟨hI, hWi, hFi⟩ ih
      try dsimp only at hI hWi hFi ih ⊢
      refine gx_iload_n (q := 1) C dX7_night_133 rfl ?_
      refine gx_bipush (v := 10) C dX7_night_134 (by decide) ?_
      refine gx_icmp_ge (tgt := 155) C dX7_night_136 (by decide) (fun c_136 => ?_) (fun c_136 => ?_)
      · skip
        have hb : i = 10 := Nat.le_antisymm hI ((nI_leI (a := 10) (b := i) (by decide) (by omega)).mp c_136)
        subst hb
        refine gx_aload_n (q := 0) C dX7_night_155 rfl ?_
        refine gx_get C (i := 0) (isMS_in hWi 0 (Nat.le_of_ble_eq_true rfl)) (isMS_0 hWi) rfl in_X7_night_7 (by decide) fl_X7_night_7 rfl dX7_night_156 ?_
        refine gx_iconst (v := 0) C dX7_night_159 (by decide) ?_
        refine gx_dup2 C dX7_night_160 rfl rfl ?_
        refine gx_ialdN C (isMS_in hWi 1 (Nat.le_of_ble_eq_true rfl)) (isMS_a0 hWi) (nLit 0) (by omega) (by decide) dX7_night_161 ?_
        refine gx_iconst (v := 1) C dX7_night_162 (by decide) ?_
        refine gx_iadd C dX7_night_163 ?_
        refine gx_iastN C hD (isMS_in hWi 1 (Nat.le_of_ble_eq_true rfl)) (isMS_a0 hWi) (nLit 0) (by omega) (by decide) dX7_night_164 ?_
        refine gx_Su0 hWi hFi (fun f_1 hW_1 hF_1 => ?_)
        exact gx_vretS C hr hW_1 hF_1 dX7_night_165 (by rfl)
      · skip
        have hlt : i < 10 := Nat.lt_of_not_le (fun z => c_136 ((nI_leI (a := 10) (b := i) (by decide) (by omega)).mpr z))
        refine gx_aload_n (q := 0) C dX7_night_139 rfl ?_
        refine gx_get C (i := 0) (isMS_in hWi 0 (Nat.le_of_ble_eq_true rfl)) (isMS_0 hWi) rfl in_X7_night_7 (by decide) fl_X7_night_7 rfl dX7_night_140 ?_
        refine gx_bipush (v := 25) C dX7_night_143 (by decide) ?_
        refine gx_iload_n (q := 1) C dX7_night_145 rfl ?_
        refine gx_iadd C dX7_night_146 ?_
        refine gx_iconst (v := 0) C dX7_night_147 (by decide) ?_
        refine gx_iastN C hD (isMS_in hWi 1 (Nat.le_of_ble_eq_true rfl)) (isMS_a0 hWi) (nAdd (nLit 25) rfl) (by omega) (by decide) dX7_night_148 ?_
        refine gx_Su0 hWi hFi (fun f_2 hW_2 hF_2 => ?_)
        refine gx_iinc C (q := 1) (v := nI (i + 1)) [(1, _), (0, _)] dX7_night_149 rfl (nI_inc i) (by decide) rfl ?_
        refine gx_goto (tgt := 133) C dX7_night_152 (by decide) ?_
        exact gx_back [1, 0] (ih (i + 1, _) ⟨by omega, (isMS_same hW_2 (mRow_s (zN2 y 105) 0 _ _ _ _ _ (by omega) rfl)), hF_2⟩ (by show 10 - (i + 1) < 10 - i; omega)) rfl (by rfl)
    · skip
      have hlt : i < 5 := Nat.lt_of_not_le (fun z => c_72 ((nI_leI (a := 5) (b := i) (by decide) (by omega)).mpr z))
      refine gx_iconst (v := 0) C dX7_night_75 (by decide) ?_
      refine gx_istore_n C (i := 2) [(2, _), (0, _), (1, _)] dX7_night_76 rfl (by decide) rfl ?_
      refine gx_loop (σ := Nat × (Nat → va_E)) (fun z => z.2) (fun z => [(0, .ref (o 0)), (1, .int (nI i)), (2, .int (nI z.1))]) (fun z => z.1 ≤ 21 ∧ isMS k L z.2 o (zN2 y (21 * i + z.1)) ∧ gFr o 6 f z.2) (fun z => 21 - z.1) (0, _) [1, 2, 0] rfl rfl ?_ ?_
      · exact ⟨Nat.zero_le _, hWi, hFi⟩
      intro ⟨j, fj⟩ ⟨hIj, hWj, hFj⟩ ihj
      try dsimp only at hIj hWj hFj ihj ⊢
      refine gx_iload_n (q := 2) C dX7_night_77 rfl ?_
      refine gx_bipush (v := 21) C dX7_night_78 (by decide) ?_
      refine gx_icmp_ge (tgt := 125) C dX7_night_80 (by decide) (fun c_80 => ?_) (fun c_80 => ?_)
      · skip
        have hbj : j = 21 := Nat.le_antisymm hIj ((nI_leI (a := 21) (b := j) (by decide) (by omega)).mp c_80)
        subst hbj
        refine gx_iinc C (q := 1) (v := nI (i + 1)) [(1, _), (0, _), (2, _)] dX7_night_125 rfl (nI_inc i) (by decide) rfl ?_
        refine gx_goto (tgt := 70) C dX7_night_128 (by decide) ?_
        exact gx_back [1, 0] (ih (i + 1, _) ⟨by omega, (isMS_same hWj (by rw [show 21 * (i + 1) = 21 * i + 21 by omega])), hFj⟩ (by show 5 - (i + 1) < 5 - i; omega)) rfl (by rfl)
      · skip
        have hltj : j < 21 := Nat.lt_of_not_le (fun z => c_80 ((nI_leI (a := 21) (b := j) (by decide) (by omega)).mpr z))
        refine gx_aload_n (q := 0) C dX7_night_83 rfl ?_
        refine gx_get C (i := 0) (isMS_in hWj 0 (Nat.le_of_ble_eq_true rfl)) (isMS_0 hWj) rfl in_X7_night_7 (by decide) fl_X7_night_7 rfl dX7_night_84 ?_
        refine gx_sipush (v := 215) C dX7_night_87 (by decide) ?_
        refine gx_bipush (v := 21) C dX7_night_90 (by decide) ?_
        refine gx_iload_n (q := 1) C dX7_night_92 rfl ?_
        refine gx_imul C dX7_night_93 ?_
        refine gx_iadd C dX7_night_94 ?_
        refine gx_iload_n (q := 2) C dX7_night_95 rfl ?_
        refine gx_iadd C dX7_night_96 ?_
        refine gx_iload_n (q := 2) C dX7_night_97 rfl ?_
        refine gx_iconst (v := 1) C dX7_night_98 (by decide) ?_
        refine gx_iadd C dX7_night_99 ?_
        refine gx_bipush (v := 21) C dX7_night_100 (by decide) ?_
        refine gx_icmp_ge (tgt := 116) C dX7_night_102 (by decide) (fun c_102 => ?_) (fun c_102 => ?_)
        · skip
          have hcj : (21 : Int32) ≤ nI j + 1 ↔ 21 ≤ j + 1 := by rw [nI_1]; exact nI_leI (a := 21) (by decide) (by omega)
          have hjj : j = 20 := by have := hcj.mp c_102; omega
          refine gx_bipush (v := (-6)) C dX7_night_116 (by decide) ?_
          refine gx_iastN C hD (isMS_in hWj 1 (Nat.le_of_ble_eq_true rfl)) (isMS_a0 hWj) (nAdd (nAdd (nLit 215) (nMul (nLit 21) rfl)) rfl) (by omega) (by decide) dX7_night_118 ?_
          refine gx_Su0 hWj hFj (fun f_3 hW_3 hF_3 => ?_)
          refine gx_iinc C (q := 2) (v := nI (j + 1)) [(2, _), (0, _), (1, _)] dX7_night_119 rfl (nI_inc j) (by decide) rfl ?_
          refine gx_goto (tgt := 77) C dX7_night_122 (by decide) ?_
          exact gx_back [1, 2, 0] (ihj (j + 1, _) ⟨by omega, (isMS_same hW_3 (by rw [show 21 * i + (j + 1) = 21 * i + j + 1 by omega]; exact zN2_s y (21 * i + j) (by omega) (by rw [if_pos (by omega : (21 * i + j) % 21 = 20)]))), hF_3⟩ (by show 21 - (j + 1) < 21 - j; omega)) rfl (by rfl)
        · skip
          have hcj : (21 : Int32) ≤ nI j + 1 ↔ 21 ≤ j + 1 := by rw [nI_1]; exact nI_leI (a := 21) (by decide) (by omega)
          have hjj : j < 20 := Nat.lt_of_not_le (fun z => c_102 (hcj.mpr (by omega)))
          refine gx_aload_n (q := 0) C dX7_night_105 rfl ?_
          refine gx_iload_n (q := 1) C dX7_night_106 rfl ?_
          refine gx_iload_n (q := 2) C dX7_night_107 rfl ?_
          refine gx_iconst (v := 1) C dX7_night_108 (by decide) ?_
          refine gx_iadd C dX7_night_109 ?_
          refine gx_callR C (k_X7_bookedBy l hWj _ _ (i := i) rfl (by omega) (j := j + 1) (nAdd rfl (nLit 1)) (by omega)) (isMS_in hWj 0 (Nat.le_of_ble_eq_true rfl)) (isMS_0 hWj) rfl (cwV 2 C.2.2.2.2.1 gX7_night_X7_bookedBy rfl rfl rfl kdV_X7_bookedBy ⟨Nat.le_of_ble_eq_true rfl, Nat.le_of_ble_eq_true rfl⟩) rfl rfl (Nat.le_of_ble_eq_true rfl) ⟨Nat.le_of_ble_eq_true rfl, Nat.le_of_ble_eq_true rfl⟩ dX7_night_110 ?_
          refine gx_goto (tgt := 118) C dX7_night_113 (by decide) ?_
          refine gx_iastN C hD (isMS_in hWj 1 (Nat.le_of_ble_eq_true rfl)) (isMS_a0 hWj) (nAdd (nAdd (nLit 215) (nMul (nLit 21) rfl)) rfl) (by omega) (by decide) dX7_night_118 ?_
          refine gx_Su0 hWj hFj (fun f_4 hW_4 hF_4 => ?_)
          refine gx_iinc C (q := 2) (v := nI (j + 1)) [(2, _), (0, _), (1, _)] dX7_night_119 rfl (nI_inc j) (by decide) rfl ?_
          refine gx_goto (tgt := 77) C dX7_night_122 (by decide) ?_
          exact gx_back [1, 2, 0] (ihj (j + 1, _) ⟨by omega, (isMS_same hW_4 (by rw [show 21 * i + (j + 1) = 21 * i + j + 1 by omega]; exact zN2_s y (21 * i + j) (by omega) (by rw [if_neg (by omega : ¬ (21 * i + j) % 21 = 20), show 215 + (21 * i + j) + 1 = 215 + 21 * i + (j + 1) by omega]; exact zN2_at y (21 * i + j) (by omega)))), hF_4⟩ (by show 21 - (j + 1) < 21 - j; omega)) rfl (by rfl)
  · skip
    have h20 := hM.2
    have hlt : i < mN y := Nat.lt_of_not_le (fun z => c_10 ((nI_leI (by omega) (by omega)).mpr z))
    refine gx_aload_n (q := 0) C dX7_night_13 rfl ?_
    refine gx_iload_n (q := 1) C dX7_night_14 rfl ?_
    refine gx_iconst (v := 3) C dX7_night_15 (by decide) ?_
    refine gx_callR C (k_X7_pot l hWi _ _ (i := i) rfl (by omega) (j := 3) (nLit 3) (by omega)) (isMS_in hWi 0 (Nat.le_of_ble_eq_true rfl)) (isMS_0 hWi) rfl (cwV 2 C.2.2.2.2.1 gX7_night_X7_pot rfl rfl rfl kdV_X7_pot ⟨Nat.le_of_ble_eq_true rfl, Nat.le_of_ble_eq_true rfl⟩) rfl rfl (Nat.le_of_ble_eq_true rfl) ⟨Nat.le_of_ble_eq_true rfl, Nat.le_of_ble_eq_true rfl⟩ dX7_night_16 ?_
    refine gx_if_ne (tgt := 62) C dX7_night_19 (by decide) (fun c_19 => ?_) (fun c_19 => ?_)
    · skip
      refine gx_iinc C (q := 1) (v := nI (i + 1)) [(1, _), (0, _)] dX7_night_62 rfl (nI_inc i) (by decide) rfl ?_
      refine gx_goto (tgt := 2) C dX7_night_65 (by decide) ?_
      have hst : zDN y (i + 1) = _ := if_neg c_19
      exact gx_back [1, 0] (ih (i + 1, _) ⟨by omega, (by rw [hst]; exact hWi), hFi⟩ (by show mN y - (i + 1) < mN y - i; omega)) rfl (by rfl)
    · skip
      refine gx_aload_n (q := 0) C dX7_night_22 rfl ?_
      refine gx_iload_n (q := 1) C dX7_night_23 rfl ?_
      refine gx_iconst (v := 4) C dX7_night_24 (by decide) ?_
      refine gx_callR C (k_X7_pot l hWi _ _ (i := i) rfl (by omega) (j := 4) (nLit 4) (by omega)) (isMS_in hWi 0 (Nat.le_of_ble_eq_true rfl)) (isMS_0 hWi) rfl (cwV 2 C.2.2.2.2.1 gX7_night_X7_pot rfl rfl rfl kdV_X7_pot ⟨Nat.le_of_ble_eq_true rfl, Nat.le_of_ble_eq_true rfl⟩) rfl rfl (Nat.le_of_ble_eq_true rfl) ⟨Nat.le_of_ble_eq_true rfl, Nat.le_of_ble_eq_true rfl⟩ dX7_night_25 ?_
      refine gx_if_ne (tgt := 62) C dX7_night_28 (by decide) (fun c_28 => ?_) (fun c_28 => ?_)
      · skip
        refine gx_iinc C (q := 1) (v := nI (i + 1)) [(1, _), (0, _)] dX7_night_62 rfl (nI_inc i) (by decide) rfl ?_
        refine gx_goto (tgt := 2) C dX7_night_65 (by decide) ?_
        have hst : zDN y (i + 1) = _ := (if_pos c_19).trans (if_neg c_28)
        exact gx_back [1, 0] (ih (i + 1, _) ⟨by omega, (by rw [hst]; exact hWi), hFi⟩ (by show mN y - (i + 1) < mN y - i; omega)) rfl (by rfl)
      · skip
        refine gx_aload_n (q := 0) C dX7_night_31 rfl ?_
        refine gx_iload_n (q := 1) C dX7_night_32 rfl ?_
        refine gx_bipush (v := 6) C dX7_night_33 (by decide) ?_
        refine gx_aload_n (q := 0) C dX7_night_35 rfl ?_
        refine gx_iload_n (q := 1) C dX7_night_36 rfl ?_
        refine gx_bipush (v := 6) C dX7_night_37 (by decide) ?_
        refine gx_callR C (k_X7_pot l hWi _ _ (i := i) rfl (by omega) (j := 6) (nLit 6) (by omega)) (isMS_in hWi 0 (Nat.le_of_ble_eq_true rfl)) (isMS_0 hWi) rfl (cwV 2 C.2.2.2.2.1 gX7_night_X7_pot rfl rfl rfl kdV_X7_pot ⟨Nat.le_of_ble_eq_true rfl, Nat.le_of_ble_eq_true rfl⟩) rfl rfl (Nat.le_of_ble_eq_true rfl) ⟨Nat.le_of_ble_eq_true rfl, Nat.le_of_ble_eq_true rfl⟩ dX7_night_39 ?_
        refine gx_aload_n (q := 0) C dX7_night_42 rfl ?_
        refine gx_iload_n (q := 1) C dX7_night_43 rfl ?_
        refine gx_iconst (v := 5) C dX7_night_44 (by decide) ?_
        refine gx_callR C (k_X7_pot l hWi _ _ (i := i) rfl (by omega) (j := 5) (nLit 5) (by omega)) (isMS_in hWi 0 (Nat.le_of_ble_eq_true rfl)) (isMS_0 hWi) rfl (cwV 2 C.2.2.2.2.1 gX7_night_X7_pot rfl rfl rfl kdV_X7_pot ⟨Nat.le_of_ble_eq_true rfl, Nat.le_of_ble_eq_true rfl⟩) rfl rfl (Nat.le_of_ble_eq_true rfl) ⟨Nat.le_of_ble_eq_true rfl, Nat.le_of_ble_eq_true rfl⟩ dX7_night_45 ?_
        refine gx_bipush (v := 8) C dX7_night_48 (by decide) ?_
        refine gx_icmp_ge (tgt := 57) C dX7_night_50 (by decide) (fun c_50 => ?_) (fun c_50 => ?_)
        · skip
          refine gx_iconst (v := 1) C dX7_night_57 (by decide) ?_
          refine gx_iadd C dX7_night_58 ?_
          refine gx_callSv C hD hFi (k_X7_put l hL hWi _ _ _ (i := i) rfl (by omega) (j := 6) (nLit 6) (by omega)) (isMS_in hWi 0 (Nat.le_of_ble_eq_true rfl)) (isMS_0 hWi) rfl (cwV 3 C.2.2.2.2.1 gX7_night_X7_put rfl rfl rfl kdV_X7_put ⟨Nat.le_of_ble_eq_true rfl, Nat.le_of_ble_eq_true rfl⟩) rfl rfl (Nat.le_of_ble_eq_true rfl) ⟨Nat.le_of_ble_eq_true rfl, Nat.le_of_ble_eq_true rfl⟩ dX7_night_59 (fun f_5 hW_5 hF_5 => ?_)
          refine gx_iinc C (q := 1) (v := nI (i + 1)) [(1, _), (0, _)] dX7_night_62 rfl (nI_inc i) (by decide) rfl ?_
          refine gx_goto (tgt := 2) C dX7_night_65 (by decide) ?_
          have hst : zDN y (i + 1) = _ := (if_pos c_19).trans (if_pos c_28)
          exact gx_back [1, 0] (ih (i + 1, _) ⟨by omega, (by rw [hst]; rw [if_pos c_50]; exact hW_5), hF_5⟩ (by show mN y - (i + 1) < mN y - i; omega)) rfl (by rfl)
        · skip
          refine gx_iconst (v := 2) C dX7_night_53 (by decide) ?_
          refine gx_goto (tgt := 58) C dX7_night_54 (by decide) ?_
          refine gx_iadd C dX7_night_58 ?_
          refine gx_callSv C hD hFi (k_X7_put l hL hWi _ _ _ (i := i) rfl (by omega) (j := 6) (nLit 6) (by omega)) (isMS_in hWi 0 (Nat.le_of_ble_eq_true rfl)) (isMS_0 hWi) rfl (cwV 3 C.2.2.2.2.1 gX7_night_X7_put rfl rfl rfl kdV_X7_put ⟨Nat.le_of_ble_eq_true rfl, Nat.le_of_ble_eq_true rfl⟩) rfl rfl (Nat.le_of_ble_eq_true rfl) ⟨Nat.le_of_ble_eq_true rfl, Nat.le_of_ble_eq_true rfl⟩ dX7_night_59 (fun f_6 hW_6 hF_6 => ?_)
          refine gx_iinc C (q := 1) (v := nI (i + 1)) [(1, _), (0, _)] dX7_night_62 rfl (nI_inc i) (by decide) rfl ?_
          refine gx_goto (tgt := 2) C dX7_night_65 (by decide) ?_
          have hst : zDN y (i + 1) = _ := (if_pos c_19).trans (if_pos c_28)
          exact gx_back [1, 0] (ih (i + 1, _) ⟨by omega, (by rw [hst]; rw [if_neg c_50]; exact hW_6), hF_6⟩ (by show mN y - (i + 1) < mN y - i; omega)) rfl (by rfl)
theorem kdN_X7_doPass : yX7_doPass.cls ≠ "java/lang/invoke/MethodHandle" ∧ yX7_doPass.cls ≠ "java/lang/invoke/VarHandle" ∧ (parseMethodDescriptor yX7_doPass.desc).map (fun d => d.parameters.length) = some 1 := by decide +kernel
theorem kdV_X7_doPass : yX7_doPass.cls = RX7 ∧ yX7_doPass.cls ≠ "java/lang/invoke/MethodHandle" ∧ yX7_doPass.cls ≠ "java/lang/invoke/VarHandle" ∧ (parseMethodDescriptor yX7_doPass.desc).map (fun d => d.parameters.length) = some 1 := ⟨rfl, kdN_X7_doPass⟩
theorem zNight_7 (y : MS) : (zNight y).1 0 7 = y.1 0 7 := by
  unfold zNight
  rw [mRow7 _ _ (by omega)]
  have e3 : (zN3 y 10).1 0 7 = (zN2 y 105).1 0 7 := by
    show va_cpy (fun _ => 0) ((zN2 y 105).1 0) 0 25 10 7 = _
    exact pk_cpy_out (Or.inl (by omega))
  have e2 : (zN2 y 105).1 0 7 = (zN1 y).1 0 7 := by
    show nb ((zN1 y).1 0) 105 7 = _
    unfold nb
    rw [if_neg (by omega)]
  rw [e3, e2]
  exact zDN_7 y _
def zPassN (y : MS) : Nat → MS
  | 0 => y
  | i + 1 => zNight (zPassN y i)
theorem zPassN_7 (y : MS) : ∀ i, (zPassN y i).1 0 7 = y.1 0 7
  | 0 => rfl
  | i + 1 => (zNight_7 _).trans (zPassN_7 y i)
theorem in_X7_doPass_7 : ∀ w ∈ u_ws RX7 TX7 13, w ∈ wsX7_doPass := by decide +kernel
theorem fl_X7_doPass_7 : Cond.fieldLink RX7 7 (TX7 0).1 (TX7 0).2.1 (TX7 0).2.2.1 ∈ wsX7_doPass := by decide +kernel
abbrev rmX7_doPass : Room := { frames := 2, cells := 0, slots := 0, locals := 45 }
set_option maxHeartbeats 4000000 in
set_option maxRecDepth 100000 in
theorem k_X7_doPass (l : Launch) {k : gK} {L : List Nat} {f : Nat → va_E} (hL : L.Nodup) {o : Nat → Nat} {y : MS} (hW : isMS k L f o y) (hM : mOK y) (n : Int32) {j : Nat} (hn : n = nI j) (hn2 : j < 21) : kM l k L f yX7_doPass wsX7_doPass rmX7_doPass [.ref (o 0), .int n] (mP k L o f (some (.int ((zPassN y j).1 0 0))) (zPassN y j)) := by
  refine kM_of (cc := cX7_doPass) (maxL := 3) (ret := (some .int)) (by decide) rfl (Nat.le_of_ble_eq_true rfl) ?_
  intro p e s m args below meth c C hr
  have hD : gD (fun q => q ∈ L) L := ⟨hL, fun _ h => h⟩
  refine gx_lv [(0, _), (1, _)] [0, 1] rfl ?_
  refine gx_iconst (v := 0) C dX7_doPass_0 (by decide) ?_
  refine gx_istore_n C (i := 2) [(2, _), (0, _), (1, _)] dX7_doPass_1 rfl (by decide) rfl ?_
  refine gx_loop (σ := Nat × (Nat → va_E)) (fun z => z.2) (fun z => [(0, .ref (o 0)), (1, .int n), (2, .int (nI z.1))]) (fun z => z.1 ≤ j ∧ isMS k L z.2 o (zPassN y z.1) ∧ gFr o 6 f z.2) (fun z => j - z.1) (0, _) [1, 2, 0] rfl rfl ?_ ?_
  · exact ⟨Nat.zero_le _, hW, (gFr_rf (f := f))⟩
  intro ⟨i, fi⟩ ⟨hI, hWi, hFi⟩ ih
  try dsimp only at hI hWi hFi ih ⊢
  refine gx_iload_n (q := 2) C dX7_doPass_2 rfl ?_
  refine gx_iload_n (q := 1) C dX7_doPass_3 rfl ?_
  refine gx_icmp_ge (tgt := 17) C dX7_doPass_4 (by decide) (fun c_4 => ?_) (fun c_4 => ?_)
  · skip
    have hb : i = j := Nat.le_antisymm hI (by rw [hn] at c_4; exact (nI_leI (by omega) (by omega)).mp c_4)
    subst hb
    refine gx_aload_n (q := 0) C dX7_doPass_17 rfl ?_
    refine gx_get C (i := 0) (isMS_in hWi 0 (Nat.le_of_ble_eq_true rfl)) (isMS_0 hWi) rfl in_X7_doPass_7 (by decide) fl_X7_doPass_7 rfl dX7_doPass_18 ?_
    refine gx_iconst (v := 0) C dX7_doPass_21 (by decide) ?_
    refine gx_ialdN C (isMS_in hWi 1 (Nat.le_of_ble_eq_true rfl)) (isMS_a0 hWi) (nLit 0) (by omega) (by decide) dX7_doPass_22 ?_
    exact gx_iretS C hr hWi hFi dX7_doPass_23 (by rfl) (by rfl)
  · skip
    rw [hn] at c_4
    have hlt : i < j := Nat.lt_of_not_le (fun z => c_4 ((nI_leI (by omega) (by omega)).mpr z))
    refine gx_aload_n (q := 0) C dX7_doPass_7 rfl ?_
    refine gx_callSv C hD hFi (k_X7_night l hL hWi (mOK_7 hM (zPassN_7 y i))) (isMS_in hWi 0 (Nat.le_of_ble_eq_true rfl)) (isMS_0 hWi) rfl (cwV 0 C.2.2.2.2.1 gX7_doPass_X7_night rfl rfl rfl kdV_X7_night ⟨Nat.le_of_ble_eq_true rfl, Nat.le_of_ble_eq_true rfl⟩) rfl rfl (Nat.le_of_ble_eq_true rfl) ⟨Nat.le_of_ble_eq_true rfl, Nat.le_of_ble_eq_true rfl⟩ dX7_doPass_8 (fun f_1 hW_1 hF_1 => ?_)
    refine gx_iinc C (q := 2) (v := nI (i + 1)) [(2, _), (0, _), (1, _)] dX7_doPass_11 rfl (nI_inc i) (by decide) rfl ?_
    refine gx_goto (tgt := 2) C dX7_doPass_14 (by decide) ?_
    exact gx_back [1, 2, 0] (ih (i + 1, _) ⟨by omega, hW_1, hF_1⟩ (by show j - (i + 1) < j - i; omega)) rfl (by rfl)
theorem kdN_X7_pass : yX7_pass.cls ≠ "java/lang/invoke/MethodHandle" ∧ yX7_pass.cls ≠ "java/lang/invoke/VarHandle" ∧ (parseMethodDescriptor yX7_pass.desc).map (fun d => d.parameters.length) = some 1 := by decide +kernel
theorem kdV_X7_pass : yX7_pass.cls = RX7 ∧ yX7_pass.cls ≠ "java/lang/invoke/MethodHandle" ∧ yX7_pass.cls ≠ "java/lang/invoke/VarHandle" ∧ (parseMethodDescriptor yX7_pass.desc).map (fun d => d.parameters.length) = some 1 := ⟨rfl, kdN_X7_pass⟩
theorem noPass_ok {y : MS} {n : Int32} (h : 0 ≤ vX7_noPass y n) : isW n 1 20 = true := by
  unfold vX7_noPass at h
  by_cases a : isW n 1 20 = true
  · exact a
  · rw [if_neg a] at h; exact absurd h (by decide)
def vX7_pass (y : MS) (n : Int32) : Int32 := (if 0 ≤ (vX7_noPass y n) then ((zPassN (mRec y) (cl n)).1 0 0) else (vX7_noPass y n))
def wX7_pass (y : MS) (n : Int32) : MS := (if 0 ≤ (vX7_noPass y n) then (zPassN (mRec y) (cl n)) else y)
abbrev rmX7_pass : Room := { frames := 3, cells := 0, slots := 0, locals := 67 }
set_option maxHeartbeats 4000000 in
set_option maxRecDepth 100000 in
theorem k_X7_pass (l : Launch) {k : gK} {L : List Nat} {f : Nat → va_E} (hL : L.Nodup) {o : Nat → Nat} {y : MS} (hW : isMS k L f o y) (hM : mOK y) (hK : mKK y) (n : Int32) : kM l k L f yX7_pass wsX7_pass rmX7_pass [.ref (o 0), .int n] (mP k L o f (some (.int (vX7_pass y n))) (wX7_pass y n)) := by
  refine kM_of (cc := cX7_pass) (maxL := 3) (ret := (some .int)) (by decide) rfl (Nat.le_of_ble_eq_true rfl) ?_
  intro p e s m args below meth c C hr
  have hD : gD (fun q => q ∈ L) L := ⟨hL, fun _ h => h⟩
  refine gx_lv [(0, _), (1, _)] [0, 1] rfl ?_
  refine gx_aload_n (q := 0) C dX7_pass_0 rfl ?_
  refine gx_iload_n (q := 1) C dX7_pass_1 rfl ?_
  refine gx_callR C (k_X7_noPass l hW _) (isMS_in hW 0 (Nat.le_of_ble_eq_true rfl)) (isMS_0 hW) rfl (cwV 1 C.2.2.2.2.1 gX7_pass_X7_noPass rfl rfl rfl kdV_X7_noPass ⟨Nat.le_of_ble_eq_true rfl, Nat.le_of_ble_eq_true rfl⟩) rfl rfl (Nat.le_of_ble_eq_true rfl) ⟨Nat.le_of_ble_eq_true rfl, Nat.le_of_ble_eq_true rfl⟩ dX7_pass_2 ?_
  refine gx_istore_n C (i := 2) [(2, _), (0, _), (1, _)] dX7_pass_5 rfl (by decide) rfl ?_
  refine gx_iload_n (q := 0) C dX7_pass_6 rfl ?_
  refine gx_if_ge (tgt := 12) C dX7_pass_7 (by decide) (fun c_7 => ?_) (fun c_7 => ?_)
  · skip
    obtain ⟨n_n, -, b_n⟩ := isW_nat (lo := 1) (hi := 20) (by decide) (by decide) (noPass_ok c_7)
    refine gx_aload_n (q := 1) C dX7_pass_12 rfl ?_
    refine gx_callSv C hD (gFr_rf (f := f)) (k_X7_record l hL hW hK) (isMS_in hW 0 (Nat.le_of_ble_eq_true rfl)) (isMS_0 hW) rfl (cwV 0 C.2.2.2.2.1 gX7_pass_X7_record rfl rfl rfl kdV_X7_record ⟨Nat.le_of_ble_eq_true rfl, Nat.le_of_ble_eq_true rfl⟩) rfl rfl (Nat.le_of_ble_eq_true rfl) ⟨Nat.le_of_ble_eq_true rfl, Nat.le_of_ble_eq_true rfl⟩ dX7_pass_13 (fun f_1 hW_1 hF_1 => ?_)
    refine gx_aload_n (q := 1) C dX7_pass_16 rfl ?_
    refine gx_iload_n (q := 2) C dX7_pass_17 rfl ?_
    refine gx_callSi C hD hF_1 (k_X7_doPass l hL hW_1 (mOK_rec hM) _ (j := (cl n)) n_n (by omega)) (isMS_in hW_1 0 (Nat.le_of_ble_eq_true rfl)) (isMS_0 hW_1) rfl (cwV 1 C.2.2.2.2.1 gX7_pass_X7_doPass rfl rfl rfl kdV_X7_doPass ⟨Nat.le_of_ble_eq_true rfl, Nat.le_of_ble_eq_true rfl⟩) rfl rfl (Nat.le_of_ble_eq_true rfl) ⟨Nat.le_of_ble_eq_true rfl, Nat.le_of_ble_eq_true rfl⟩ dX7_pass_18 (fun f_2 hW_2 hF_2 => ?_)
    exact gx_iretS C hr hW_2 hF_2 dX7_pass_21 ((if_pos c_7).trans (rfl)).symm ((if_pos c_7).trans (rfl)).symm
  · skip
    refine gx_iload_n (q := 0) C dX7_pass_10 rfl ?_
    exact gx_iretS C hr hW (gFr_rf (f := f)) dX7_pass_11 ((if_neg c_7).trans (rfl)).symm ((if_neg c_7).trans (rfl)).symm
