theorem kdN_X7_in : yX7_in.cls ≠ "java/lang/invoke/MethodHandle" ∧ yX7_in.cls ≠ "java/lang/invoke/VarHandle" ∧ (parseMethodDescriptor yX7_in.desc).map (fun d => d.parameters.length) = some 3 := by decide +kernel
theorem kdV_X7_in : yX7_in.cls = RX7 ∧ yX7_in.cls ≠ "java/lang/invoke/MethodHandle" ∧ yX7_in.cls ≠ "java/lang/invoke/VarHandle" ∧ (parseMethodDescriptor yX7_in.desc).map (fun d => d.parameters.length) = some 3 := ⟨rfl, kdN_X7_in⟩
abbrev rmX7_in : Room := { frames := 0, cells := 0, slots := 0, locals := 0 }
set_option maxHeartbeats 4000000 in
set_option maxRecDepth 100000 in
theorem k_X7_in (l : Launch) {k : gK} {L : List Nat} {f : Nat → va_E}  (v : Int32) (lo : Int32) (hi : Int32) : kR l k L f yX7_in wsX7_in rmX7_in [.int v, .int lo, .int hi] (.int (bI (isW v lo hi))) := by
  refine kR_of (cc := cX7_in) (maxL := 3) (ret := (some .boolean)) (by decide) rfl (Nat.le_of_ble_eq_true rfl) ?_
  intro p e s m args below meth c C hr
  refine gx_lv [(0, _), (1, _), (2, _)] [0, 1, 2] rfl ?_
  refine gx_iload_n (q := 0) C dX7_in_0 rfl ?_
  refine gx_iload_n (q := 1) C dX7_in_1 rfl ?_
  refine gx_icmp_lt (tgt := 14) C dX7_in_2 (by decide) (fun c_2 => ?_) (fun c_2 => ?_)
  · skip
    refine gx_iconst (v := 0) C dX7_in_14 (by decide) ?_
    exact gx_zretR C rfl hr (Or.inl rfl) dX7_in_15 (congrArg Value.int (by simp [isW, bI, c_2]))
  · skip
    refine gx_iload_n (q := 0) C dX7_in_5 rfl ?_
    refine gx_iload_n (q := 2) C dX7_in_6 rfl ?_
    refine gx_icmp_gt (tgt := 14) C dX7_in_7 (by decide) (fun c_7 => ?_) (fun c_7 => ?_)
    · skip
      refine gx_iconst (v := 0) C dX7_in_14 (by decide) ?_
      exact gx_zretR C rfl hr (Or.inl rfl) dX7_in_15 (congrArg Value.int (by simp [isW, bI, c_2, c_7]))
    · skip
      refine gx_iconst (v := 1) C dX7_in_10 (by decide) ?_
      refine gx_goto (tgt := 15) C dX7_in_11 (by decide) ?_
      exact gx_zretR C rfl hr (Or.inr rfl) dX7_in_15 (congrArg Value.int (by simp [isW, bI, c_2, c_7]))
theorem kdN_X7_pot : yX7_pot.cls ≠ "java/lang/invoke/MethodHandle" ∧ yX7_pot.cls ≠ "java/lang/invoke/VarHandle" ∧ (parseMethodDescriptor yX7_pot.desc).map (fun d => d.parameters.length) = some 2 := by decide +kernel
theorem kdV_X7_pot : yX7_pot.cls = RX7 ∧ yX7_pot.cls ≠ "java/lang/invoke/MethodHandle" ∧ yX7_pot.cls ≠ "java/lang/invoke/VarHandle" ∧ (parseMethodDescriptor yX7_pot.desc).map (fun d => d.parameters.length) = some 2 := ⟨rfl, kdN_X7_pot⟩
theorem in_X7_pot_7 : ∀ w ∈ u_ws RX7 TX7 13, w ∈ wsX7_pot := by decide +kernel
theorem fl_X7_pot_7 : Cond.fieldLink RX7 7 (TX7 0).1 (TX7 0).2.1 (TX7 0).2.2.1 ∈ wsX7_pot := by decide +kernel
abbrev rmX7_pot : Room := { frames := 0, cells := 0, slots := 0, locals := 0 }
set_option maxHeartbeats 4000000 in
set_option maxRecDepth 100000 in
theorem k_X7_pot (l : Launch) {k : gK} {L : List Nat} {f : Nat → va_E} {o : Nat → Nat} {y : MS} (hW : isMS k L f o y) (q : Int32) (wh : Int32) {i : Nat} (hq : q = nI i) (hq2 : i < 20) {j : Nat} (hwh : wh = nI j) (hwh2 : j < 9) : kR l k L f yX7_pot wsX7_pot rmX7_pot [.ref (o 0), .int q, .int wh] (.int (y.1 0 (35 + 9 * i + j))) := by
  refine kR_of (cc := cX7_pot) (maxL := 3) (ret := (some .int)) (by decide) rfl (Nat.le_of_ble_eq_true rfl) ?_
  intro p e s m args below meth c C hr
  refine gx_lv [(0, _), (1, _), (2, _)] [0, 1, 2] rfl ?_
  refine gx_aload_n (q := 0) C dX7_pot_0 rfl ?_
  refine gx_get C (i := 0) (isMS_in hW 0 (Nat.le_of_ble_eq_true rfl)) (isMS_0 hW) rfl in_X7_pot_7 (by decide) fl_X7_pot_7 rfl dX7_pot_1 ?_
  refine gx_bipush (v := 35) C dX7_pot_4 (by decide) ?_
  refine gx_bipush (v := 9) C dX7_pot_6 (by decide) ?_
  refine gx_iload_n (q := 1) C dX7_pot_8 rfl ?_
  refine gx_imul C dX7_pot_9 ?_
  refine gx_iadd C dX7_pot_10 ?_
  refine gx_iload_n (q := 2) C dX7_pot_11 rfl ?_
  refine gx_iadd C dX7_pot_12 ?_
  refine gx_ialdN C (isMS_in hW 1 (Nat.le_of_ble_eq_true rfl)) (isMS_a0 hW) (nAdd (nAdd (nLit 35) (nMul (nLit 9) hq)) hwh) (by omega) (by decide) dX7_pot_13 ?_
  exact gx_iretR C rfl hr dX7_pot_14 (congrArg Value.int (by rfl))
theorem kdN_X7_put : yX7_put.cls ≠ "java/lang/invoke/MethodHandle" ∧ yX7_put.cls ≠ "java/lang/invoke/VarHandle" ∧ (parseMethodDescriptor yX7_put.desc).map (fun d => d.parameters.length) = some 3 := by decide +kernel
theorem kdV_X7_put : yX7_put.cls = RX7 ∧ yX7_put.cls ≠ "java/lang/invoke/MethodHandle" ∧ yX7_put.cls ≠ "java/lang/invoke/VarHandle" ∧ (parseMethodDescriptor yX7_put.desc).map (fun d => d.parameters.length) = some 3 := ⟨rfl, kdN_X7_put⟩
theorem in_X7_put_7 : ∀ w ∈ u_ws RX7 TX7 13, w ∈ wsX7_put := by decide +kernel
theorem fl_X7_put_7 : Cond.fieldLink RX7 7 (TX7 0).1 (TX7 0).2.1 (TX7 0).2.2.1 ∈ wsX7_put := by decide +kernel
abbrev rmX7_put : Room := { frames := 0, cells := 0, slots := 0, locals := 0 }
set_option maxHeartbeats 4000000 in
set_option maxRecDepth 100000 in
theorem k_X7_put (l : Launch) {k : gK} {L : List Nat} {f : Nat → va_E} (hL : L.Nodup) {o : Nat → Nat} {y : MS} (hW : isMS k L f o y) (q : Int32) (wh : Int32) (v : Int32) {i : Nat} (hq : q = nI i) (hq2 : i < 20) {j : Nat} (hwh : wh = nI j) (hwh2 : j < 9) : kM l k L f yX7_put wsX7_put rmX7_put [.ref (o 0), .int q, .int wh, .int v] (mP k L o f none (mRow y 0 (upd (y.1 0) (35 + 9 * i + j) v))) := by
  refine kM_of (cc := cX7_put) (maxL := 4) (ret := none) (by decide) rfl (Nat.le_of_ble_eq_true rfl) ?_
  intro p e s m args below meth c C hr
  have hD : gD (fun q => q ∈ L) L := ⟨hL, fun _ h => h⟩
  refine gx_lv [(0, _), (1, _), (2, _), (3, _)] [0, 1, 2, 3] rfl ?_
  refine gx_aload_n (q := 0) C dX7_put_0 rfl ?_
  refine gx_get C (i := 0) (isMS_in hW 0 (Nat.le_of_ble_eq_true rfl)) (isMS_0 hW) rfl in_X7_put_7 (by decide) fl_X7_put_7 rfl dX7_put_1 ?_
  refine gx_bipush (v := 35) C dX7_put_4 (by decide) ?_
  refine gx_bipush (v := 9) C dX7_put_6 (by decide) ?_
  refine gx_iload_n (q := 1) C dX7_put_8 rfl ?_
  refine gx_imul C dX7_put_9 ?_
  refine gx_iadd C dX7_put_10 ?_
  refine gx_iload_n (q := 2) C dX7_put_11 rfl ?_
  refine gx_iadd C dX7_put_12 ?_
  refine gx_iload_n (q := 3) C dX7_put_13 rfl ?_
  refine gx_iastN C hD (isMS_in hW 1 (Nat.le_of_ble_eq_true rfl)) (isMS_a0 hW) (nAdd (nAdd (nLit 35) (nMul (nLit 9) hq)) hwh) (by omega) (by decide) dX7_put_14 ?_
  refine gx_Su0 hW (gFr_rf (f := f)) (fun f_1 hW_1 hF_1 => ?_)
  exact gx_vretS C hr hW_1 hF_1 dX7_put_15 (by rfl)
theorem kdN_X7_isWheel : yX7_isWheel.cls ≠ "java/lang/invoke/MethodHandle" ∧ yX7_isWheel.cls ≠ "java/lang/invoke/VarHandle" ∧ (parseMethodDescriptor yX7_isWheel.desc).map (fun d => d.parameters.length) = some 1 := by decide +kernel
theorem kdV_X7_isWheel : yX7_isWheel.cls = RX7 ∧ yX7_isWheel.cls ≠ "java/lang/invoke/MethodHandle" ∧ yX7_isWheel.cls ≠ "java/lang/invoke/VarHandle" ∧ (parseMethodDescriptor yX7_isWheel.desc).map (fun d => d.parameters.length) = some 1 := ⟨rfl, kdN_X7_isWheel⟩
def vX7_isWheel (q : Int32) : Bool := (isW q 0 4)
abbrev rmX7_isWheel : Room := { frames := 1, cells := 0, slots := 0, locals := 22 }
set_option maxHeartbeats 4000000 in
set_option maxRecDepth 100000 in
theorem k_X7_isWheel (l : Launch) {k : gK} {L : List Nat} {f : Nat → va_E}  (q : Int32) : kR l k L f yX7_isWheel wsX7_isWheel rmX7_isWheel [.int q] (.int (bI (vX7_isWheel q))) := by
  refine kR_of (cc := cX7_isWheel) (maxL := 1) (ret := (some .boolean)) (by decide) rfl (Nat.le_of_ble_eq_true rfl) ?_
  intro p e s m args below meth c C hr
  refine gx_lv [(0, _)] [0] rfl ?_
  refine gx_iload_n (q := 0) C dX7_isWheel_0 rfl ?_
  refine gx_iconst (v := 0) C dX7_isWheel_1 (by decide) ?_
  refine gx_iconst (v := 4) C dX7_isWheel_2 (by decide) ?_
  refine gx_callRS C (k_X7_in l (k := k) (L := L) _ _ _) (va_cwS 3 C.2.2.2.2.1 gX7_isWheel_X7_in rfl rfl rfl kdN_X7_in ⟨Nat.le_of_ble_eq_true rfl, Nat.le_of_ble_eq_true rfl⟩) rfl rfl (Nat.le_of_ble_eq_true rfl) ⟨Nat.le_of_ble_eq_true rfl, Nat.le_of_ble_eq_true rfl⟩ dX7_isWheel_3 ?_
  exact gx_zretR C rfl hr (bI01 _) dX7_isWheel_6 (congrArg Value.int (congrArg bI (show vX7_isWheel q = (isW q 0 4) from rfl)).symm)
theorem kdN_X7_isAhead : yX7_isAhead.cls ≠ "java/lang/invoke/MethodHandle" ∧ yX7_isAhead.cls ≠ "java/lang/invoke/VarHandle" ∧ (parseMethodDescriptor yX7_isAhead.desc).map (fun d => d.parameters.length) = some 1 := by decide +kernel
theorem kdV_X7_isAhead : yX7_isAhead.cls = RX7 ∧ yX7_isAhead.cls ≠ "java/lang/invoke/MethodHandle" ∧ yX7_isAhead.cls ≠ "java/lang/invoke/VarHandle" ∧ (parseMethodDescriptor yX7_isAhead.desc).map (fun d => d.parameters.length) = some 1 := ⟨rfl, kdN_X7_isAhead⟩
def vX7_isAhead (q : Int32) : Bool := (isW q 0 20)
abbrev rmX7_isAhead : Room := { frames := 1, cells := 0, slots := 0, locals := 22 }
set_option maxHeartbeats 4000000 in
set_option maxRecDepth 100000 in
theorem k_X7_isAhead (l : Launch) {k : gK} {L : List Nat} {f : Nat → va_E}  (q : Int32) : kR l k L f yX7_isAhead wsX7_isAhead rmX7_isAhead [.int q] (.int (bI (vX7_isAhead q))) := by
  refine kR_of (cc := cX7_isAhead) (maxL := 1) (ret := (some .boolean)) (by decide) rfl (Nat.le_of_ble_eq_true rfl) ?_
  intro p e s m args below meth c C hr
  refine gx_lv [(0, _)] [0] rfl ?_
  refine gx_iload_n (q := 0) C dX7_isAhead_0 rfl ?_
  refine gx_iconst (v := 0) C dX7_isAhead_1 (by decide) ?_
  refine gx_bipush (v := 20) C dX7_isAhead_2 (by decide) ?_
  refine gx_callRS C (k_X7_in l (k := k) (L := L) _ _ _) (va_cwS 3 C.2.2.2.2.1 gX7_isAhead_X7_in rfl rfl rfl kdN_X7_in ⟨Nat.le_of_ble_eq_true rfl, Nat.le_of_ble_eq_true rfl⟩) rfl rfl (Nat.le_of_ble_eq_true rfl) ⟨Nat.le_of_ble_eq_true rfl, Nat.le_of_ble_eq_true rfl⟩ dX7_isAhead_4 ?_
  exact gx_zretR C rfl hr (bI01 _) dX7_isAhead_7 (congrArg Value.int (congrArg bI (show vX7_isAhead q = (isW q 0 20) from rfl)).symm)
theorem kdN_X7_isGlaze : yX7_isGlaze.cls ≠ "java/lang/invoke/MethodHandle" ∧ yX7_isGlaze.cls ≠ "java/lang/invoke/VarHandle" ∧ (parseMethodDescriptor yX7_isGlaze.desc).map (fun d => d.parameters.length) = some 1 := by decide +kernel
theorem kdV_X7_isGlaze : yX7_isGlaze.cls = RX7 ∧ yX7_isGlaze.cls ≠ "java/lang/invoke/MethodHandle" ∧ yX7_isGlaze.cls ≠ "java/lang/invoke/VarHandle" ∧ (parseMethodDescriptor yX7_isGlaze.desc).map (fun d => d.parameters.length) = some 1 := ⟨rfl, kdN_X7_isGlaze⟩
def vX7_isGlaze (q : Int32) : Bool := (isW q 0 3)
abbrev rmX7_isGlaze : Room := { frames := 1, cells := 0, slots := 0, locals := 22 }
set_option maxHeartbeats 4000000 in
set_option maxRecDepth 100000 in
theorem k_X7_isGlaze (l : Launch) {k : gK} {L : List Nat} {f : Nat → va_E}  (q : Int32) : kR l k L f yX7_isGlaze wsX7_isGlaze rmX7_isGlaze [.int q] (.int (bI (vX7_isGlaze q))) := by
  refine kR_of (cc := cX7_isGlaze) (maxL := 1) (ret := (some .boolean)) (by decide) rfl (Nat.le_of_ble_eq_true rfl) ?_
  intro p e s m args below meth c C hr
  refine gx_lv [(0, _)] [0] rfl ?_
  refine gx_iload_n (q := 0) C dX7_isGlaze_0 rfl ?_
  refine gx_iconst (v := 0) C dX7_isGlaze_1 (by decide) ?_
  refine gx_iconst (v := 3) C dX7_isGlaze_2 (by decide) ?_
  refine gx_callRS C (k_X7_in l (k := k) (L := L) _ _ _) (va_cwS 3 C.2.2.2.2.1 gX7_isGlaze_X7_in rfl rfl rfl kdN_X7_in ⟨Nat.le_of_ble_eq_true rfl, Nat.le_of_ble_eq_true rfl⟩) rfl rfl (Nat.le_of_ble_eq_true rfl) ⟨Nat.le_of_ble_eq_true rfl, Nat.le_of_ble_eq_true rfl⟩ dX7_isGlaze_3 ?_
  exact gx_zretR C rfl hr (bI01 _) dX7_isGlaze_6 (congrArg Value.int (congrArg bI (show vX7_isGlaze q = (isW q 0 3) from rfl)).symm)
theorem kdN_X7_isPupil : yX7_isPupil.cls ≠ "java/lang/invoke/MethodHandle" ∧ yX7_isPupil.cls ≠ "java/lang/invoke/VarHandle" ∧ (parseMethodDescriptor yX7_isPupil.desc).map (fun d => d.parameters.length) = some 1 := by decide +kernel
theorem kdV_X7_isPupil : yX7_isPupil.cls = RX7 ∧ yX7_isPupil.cls ≠ "java/lang/invoke/MethodHandle" ∧ yX7_isPupil.cls ≠ "java/lang/invoke/VarHandle" ∧ (parseMethodDescriptor yX7_isPupil.desc).map (fun d => d.parameters.length) = some 1 := ⟨rfl, kdN_X7_isPupil⟩
def vX7_isPupil (y : MS) (q : Int32) : Bool := (isW q 0 ((y.1 0 (6)) - 1))
theorem in_X7_isPupil_7 : ∀ w ∈ u_ws RX7 TX7 13, w ∈ wsX7_isPupil := by decide +kernel
theorem fl_X7_isPupil_7 : Cond.fieldLink RX7 7 (TX7 0).1 (TX7 0).2.1 (TX7 0).2.2.1 ∈ wsX7_isPupil := by decide +kernel
abbrev rmX7_isPupil : Room := { frames := 1, cells := 0, slots := 0, locals := 22 }
set_option maxHeartbeats 4000000 in
set_option maxRecDepth 100000 in
theorem k_X7_isPupil (l : Launch) {k : gK} {L : List Nat} {f : Nat → va_E} {o : Nat → Nat} {y : MS} (hW : isMS k L f o y) (q : Int32) : kR l k L f yX7_isPupil wsX7_isPupil rmX7_isPupil [.ref (o 0), .int q] (.int (bI (vX7_isPupil y q))) := by
  refine kR_of (cc := cX7_isPupil) (maxL := 2) (ret := (some .boolean)) (by decide) rfl (Nat.le_of_ble_eq_true rfl) ?_
  intro p e s m args below meth c C hr
  refine gx_lv [(0, _), (1, _)] [0, 1] rfl ?_
  refine gx_iload_n (q := 1) C dX7_isPupil_0 rfl ?_
  refine gx_iconst (v := 0) C dX7_isPupil_1 (by decide) ?_
  refine gx_aload_n (q := 0) C dX7_isPupil_2 rfl ?_
  refine gx_get C (i := 0) (isMS_in hW 0 (Nat.le_of_ble_eq_true rfl)) (isMS_0 hW) rfl in_X7_isPupil_7 (by decide) fl_X7_isPupil_7 rfl dX7_isPupil_3 ?_
  refine gx_bipush (v := 6) C dX7_isPupil_6 (by decide) ?_
  refine gx_ialdN C (isMS_in hW 1 (Nat.le_of_ble_eq_true rfl)) (isMS_a0 hW) (nLit 6) (by omega) (by decide) dX7_isPupil_8 ?_
  refine gx_iconst (v := 1) C dX7_isPupil_9 (by decide) ?_
  refine gx_isub C dX7_isPupil_10 ?_
  refine gx_callRS C (k_X7_in l (k := k) (L := L) _ _ _) (va_cwS 3 C.2.2.2.2.1 gX7_isPupil_X7_in rfl rfl rfl kdN_X7_in ⟨Nat.le_of_ble_eq_true rfl, Nat.le_of_ble_eq_true rfl⟩) rfl rfl (Nat.le_of_ble_eq_true rfl) ⟨Nat.le_of_ble_eq_true rfl, Nat.le_of_ble_eq_true rfl⟩ dX7_isPupil_11 ?_
  exact gx_zretR C rfl hr (bI01 _) dX7_isPupil_14 (congrArg Value.int (congrArg bI (show vX7_isPupil y q = (isW q 0 ((y.1 0 (6)) - 1)) from rfl)).symm)
theorem kdN_X7_isPot : yX7_isPot.cls ≠ "java/lang/invoke/MethodHandle" ∧ yX7_isPot.cls ≠ "java/lang/invoke/VarHandle" ∧ (parseMethodDescriptor yX7_isPot.desc).map (fun d => d.parameters.length) = some 1 := by decide +kernel
theorem kdV_X7_isPot : yX7_isPot.cls = RX7 ∧ yX7_isPot.cls ≠ "java/lang/invoke/MethodHandle" ∧ yX7_isPot.cls ≠ "java/lang/invoke/VarHandle" ∧ (parseMethodDescriptor yX7_isPot.desc).map (fun d => d.parameters.length) = some 1 := ⟨rfl, kdN_X7_isPot⟩
def vX7_isPot (y : MS) (q : Int32) : Bool := (isW q 0 ((y.1 0 (7)) - 1))
theorem in_X7_isPot_7 : ∀ w ∈ u_ws RX7 TX7 13, w ∈ wsX7_isPot := by decide +kernel
theorem fl_X7_isPot_7 : Cond.fieldLink RX7 7 (TX7 0).1 (TX7 0).2.1 (TX7 0).2.2.1 ∈ wsX7_isPot := by decide +kernel
abbrev rmX7_isPot : Room := { frames := 1, cells := 0, slots := 0, locals := 22 }
set_option maxHeartbeats 4000000 in
set_option maxRecDepth 100000 in
theorem k_X7_isPot (l : Launch) {k : gK} {L : List Nat} {f : Nat → va_E} {o : Nat → Nat} {y : MS} (hW : isMS k L f o y) (q : Int32) : kR l k L f yX7_isPot wsX7_isPot rmX7_isPot [.ref (o 0), .int q] (.int (bI (vX7_isPot y q))) := by
  refine kR_of (cc := cX7_isPot) (maxL := 2) (ret := (some .boolean)) (by decide) rfl (Nat.le_of_ble_eq_true rfl) ?_
  intro p e s m args below meth c C hr
  refine gx_lv [(0, _), (1, _)] [0, 1] rfl ?_
  refine gx_iload_n (q := 1) C dX7_isPot_0 rfl ?_
  refine gx_iconst (v := 0) C dX7_isPot_1 (by decide) ?_
  refine gx_aload_n (q := 0) C dX7_isPot_2 rfl ?_
  refine gx_get C (i := 0) (isMS_in hW 0 (Nat.le_of_ble_eq_true rfl)) (isMS_0 hW) rfl in_X7_isPot_7 (by decide) fl_X7_isPot_7 rfl dX7_isPot_3 ?_
  refine gx_bipush (v := 7) C dX7_isPot_6 (by decide) ?_
  refine gx_ialdN C (isMS_in hW 1 (Nat.le_of_ble_eq_true rfl)) (isMS_a0 hW) (nLit 7) (by omega) (by decide) dX7_isPot_8 ?_
  refine gx_iconst (v := 1) C dX7_isPot_9 (by decide) ?_
  refine gx_isub C dX7_isPot_10 ?_
  refine gx_callRS C (k_X7_in l (k := k) (L := L) _ _ _) (va_cwS 3 C.2.2.2.2.1 gX7_isPot_X7_in rfl rfl rfl kdN_X7_in ⟨Nat.le_of_ble_eq_true rfl, Nat.le_of_ble_eq_true rfl⟩) rfl rfl (Nat.le_of_ble_eq_true rfl) ⟨Nat.le_of_ble_eq_true rfl, Nat.le_of_ble_eq_true rfl⟩ dX7_isPot_11 ?_
  exact gx_zretR C rfl hr (bI01 _) dX7_isPot_14 (congrArg Value.int (congrArg bI (show vX7_isPot y q = (isW q 0 ((y.1 0 (7)) - 1)) from rfl)).symm)
theorem kdN_X7_bookedBy : yX7_bookedBy.cls ≠ "java/lang/invoke/MethodHandle" ∧ yX7_bookedBy.cls ≠ "java/lang/invoke/VarHandle" ∧ (parseMethodDescriptor yX7_bookedBy.desc).map (fun d => d.parameters.length) = some 2 := by decide +kernel
theorem kdV_X7_bookedBy : yX7_bookedBy.cls = RX7 ∧ yX7_bookedBy.cls ≠ "java/lang/invoke/MethodHandle" ∧ yX7_bookedBy.cls ≠ "java/lang/invoke/VarHandle" ∧ (parseMethodDescriptor yX7_bookedBy.desc).map (fun d => d.parameters.length) = some 2 := ⟨rfl, kdN_X7_bookedBy⟩
theorem in_X7_bookedBy_7 : ∀ w ∈ u_ws RX7 TX7 13, w ∈ wsX7_bookedBy := by decide +kernel
theorem fl_X7_bookedBy_7 : Cond.fieldLink RX7 7 (TX7 0).1 (TX7 0).2.1 (TX7 0).2.2.1 ∈ wsX7_bookedBy := by decide +kernel
abbrev rmX7_bookedBy : Room := { frames := 0, cells := 0, slots := 0, locals := 0 }
set_option maxHeartbeats 4000000 in
set_option maxRecDepth 100000 in
theorem k_X7_bookedBy (l : Launch) {k : gK} {L : List Nat} {f : Nat → va_E} {o : Nat → Nat} {y : MS} (hW : isMS k L f o y) (wh : Int32) (ah : Int32) {i : Nat} (hwh : wh = nI i) (hwh2 : i < 5) {j : Nat} (hah : ah = nI j) (hah2 : j < 21) : kR l k L f yX7_bookedBy wsX7_bookedBy rmX7_bookedBy [.ref (o 0), .int wh, .int ah] (.int (y.1 0 (215 + 21 * i + j))) := by
  refine kR_of (cc := cX7_bookedBy) (maxL := 3) (ret := (some .int)) (by decide) rfl (Nat.le_of_ble_eq_true rfl) ?_
  intro p e s m args below meth c C hr
  refine gx_lv [(0, _), (1, _), (2, _)] [0, 1, 2] rfl ?_
  refine gx_aload_n (q := 0) C dX7_bookedBy_0 rfl ?_
  refine gx_get C (i := 0) (isMS_in hW 0 (Nat.le_of_ble_eq_true rfl)) (isMS_0 hW) rfl in_X7_bookedBy_7 (by decide) fl_X7_bookedBy_7 rfl dX7_bookedBy_1 ?_
  refine gx_sipush (v := 215) C dX7_bookedBy_4 (by decide) ?_
  refine gx_bipush (v := 21) C dX7_bookedBy_7 (by decide) ?_
  refine gx_iload_n (q := 1) C dX7_bookedBy_9 rfl ?_
  refine gx_imul C dX7_bookedBy_10 ?_
  refine gx_iadd C dX7_bookedBy_11 ?_
  refine gx_iload_n (q := 2) C dX7_bookedBy_12 rfl ?_
  refine gx_iadd C dX7_bookedBy_13 ?_
  refine gx_ialdN C (isMS_in hW 1 (Nat.le_of_ble_eq_true rfl)) (isMS_a0 hW) (nAdd (nAdd (nLit 215) (nMul (nLit 21) hwh)) hah) (by omega) (by decide) dX7_bookedBy_14 ?_
  exact gx_iretR C rfl hr dX7_bookedBy_15 (congrArg Value.int (by rfl))
theorem kdN_X7_wheelOf : yX7_wheelOf.cls ≠ "java/lang/invoke/MethodHandle" ∧ yX7_wheelOf.cls ≠ "java/lang/invoke/VarHandle" ∧ (parseMethodDescriptor yX7_wheelOf.desc).map (fun d => d.parameters.length) = some 2 := by decide +kernel
theorem kdV_X7_wheelOf : yX7_wheelOf.cls = RX7 ∧ yX7_wheelOf.cls ≠ "java/lang/invoke/MethodHandle" ∧ yX7_wheelOf.cls ≠ "java/lang/invoke/VarHandle" ∧ (parseMethodDescriptor yX7_wheelOf.desc).map (fun d => d.parameters.length) = some 2 := ⟨rfl, kdN_X7_wheelOf⟩
abbrev rmX7_wheelOf : Room := { frames := 1, cells := 0, slots := 0, locals := 22 }
set_option maxHeartbeats 4000000 in
set_option maxRecDepth 100000 in
theorem k_X7_wheelOf (l : Launch) {k : gK} {L : List Nat} {f : Nat → va_E} {o : Nat → Nat} {y : MS} (hW : isMS k L f o y) (q : Int32) (ah : Int32) {j : Nat} (hah : ah = nI j) (hah2 : j < 21) : kR l k L f yX7_wheelOf wsX7_wheelOf rmX7_wheelOf [.ref (o 0), .int q, .int ah] (.int (zWh (y.1 0) q j 5)) := by
  refine kR_of (cc := cX7_wheelOf) (maxL := 5) (ret := (some .int)) (by decide) rfl (Nat.le_of_ble_eq_true rfl) ?_
  intro p e s m args below meth c C hr
  refine gx_lv [(0, _), (1, _), (2, _)] [0, 1, 2] rfl ?_
  refine gx_bipush (v := (-6)) C dX7_wheelOf_0 (by decide) ?_
  refine gx_istore_n C (i := 3) [(3, _), (0, _), (1, _), (2, _)] dX7_wheelOf_2 rfl (by decide) rfl ?_
  refine gx_iconst (v := 0) C dX7_wheelOf_3 (by decide) ?_
  refine gx_istore C [(4, _), (3, _), (0, _), (1, _), (2, _)] dX7_wheelOf_4 (by decide) rfl ?_
  refine gx_loop (σ := Nat) (fun i => f) (fun i => [(0, .ref (o 0)), (1, .int q), (2, .int ah), (3, .int (zWh (y.1 0) q j i)), (4, .int (nI i))]) (fun i => i ≤ 5) (fun i => 5 - i) 0 [2, 3, 4, 1, 0] rfl rfl ?_ ?_
  · exact Nat.zero_le _
  intro i hI ih
  try dsimp only at hI ih ⊢
  refine gx_iload (q := 4) C dX7_wheelOf_6 rfl ?_
  refine gx_iconst (v := 5) C dX7_wheelOf_8 (by decide) ?_
  refine gx_icmp_ge (tgt := 36) C dX7_wheelOf_9 (by decide) (fun c_9 => ?_) (fun c_9 => ?_)
  · skip
    have hb := (nI_leI (a := 5) (b := i) (by decide) (by omega)).mp c_9
    refine gx_iload_n (q := 3) C dX7_wheelOf_36 rfl ?_
    exact gx_iretR C rfl hr dX7_wheelOf_37 (congrArg Value.int (by rw [show i = 5 by omega]))
  · skip
    have hlt : i < 5 := Nat.lt_of_not_le (fun z => c_9 ((nI_leI (a := 5) (b := i) (by decide) (by omega)).mpr z))
    refine gx_aload_n (q := 0) C dX7_wheelOf_12 rfl ?_
    refine gx_iload (q := 4) C dX7_wheelOf_13 rfl ?_
    refine gx_iload_n (q := 2) C dX7_wheelOf_15 rfl ?_
    refine gx_callR C (k_X7_bookedBy l hW _ _ (i := i) rfl (by omega) (j := j) hah (by omega)) (isMS_in hW 0 (Nat.le_of_ble_eq_true rfl)) (isMS_0 hW) rfl (cwV 2 C.2.2.2.2.1 gX7_wheelOf_X7_bookedBy rfl rfl rfl kdV_X7_bookedBy ⟨Nat.le_of_ble_eq_true rfl, Nat.le_of_ble_eq_true rfl⟩) rfl rfl (Nat.le_of_ble_eq_true rfl) ⟨Nat.le_of_ble_eq_true rfl, Nat.le_of_ble_eq_true rfl⟩ dX7_wheelOf_16 ?_
    refine gx_iload_n (q := 1) C dX7_wheelOf_19 rfl ?_
    refine gx_icmp_ne (tgt := 28) C dX7_wheelOf_20 (by decide) (fun c_20 => ?_) (fun c_20 => ?_)
    · skip
      refine gx_iload_n (q := 3) C dX7_wheelOf_28 rfl ?_
      refine gx_istore_n C (i := 3) [(3, _), (0, _), (1, _), (2, _), (4, _)] dX7_wheelOf_29 rfl (by decide) rfl ?_
      refine gx_iinc C (q := 4) (v := nI (i + 1)) [(4, _), (3, _), (0, _), (1, _), (2, _)] dX7_wheelOf_30 rfl (nI_inc i) (by decide) rfl ?_
      refine gx_goto (tgt := 6) C dX7_wheelOf_33 (by decide) ?_
      exact gx_back [2, 3, 4, 1, 0] (ih (i + 1) (by omega) (by omega)) rfl (by rw [show zWh (y.1 0) q j (i + 1) = _ from if_neg c_20]; rfl)
    · skip
      refine gx_iload (q := 4) C dX7_wheelOf_23 rfl ?_
      refine gx_goto (tgt := 29) C dX7_wheelOf_25 (by decide) ?_
      refine gx_istore_n C (i := 3) [(3, _), (0, _), (1, _), (2, _), (4, _)] dX7_wheelOf_29 rfl (by decide) rfl ?_
      refine gx_iinc C (q := 4) (v := nI (i + 1)) [(4, _), (3, _), (0, _), (1, _), (2, _)] dX7_wheelOf_30 rfl (nI_inc i) (by decide) rfl ?_
      refine gx_goto (tgt := 6) C dX7_wheelOf_33 (by decide) ?_
      exact gx_back [2, 3, 4, 1, 0] (ih (i + 1) (by omega) (by omega)) rfl (by rw [show zWh (y.1 0) q j (i + 1) = _ from if_pos c_20]; rfl)
theorem kdN_X7_potsAt : yX7_potsAt.cls ≠ "java/lang/invoke/MethodHandle" ∧ yX7_potsAt.cls ≠ "java/lang/invoke/VarHandle" ∧ (parseMethodDescriptor yX7_potsAt.desc).map (fun d => d.parameters.length) = some 1 := by decide +kernel
theorem kdV_X7_potsAt : yX7_potsAt.cls = RX7 ∧ yX7_potsAt.cls ≠ "java/lang/invoke/MethodHandle" ∧ yX7_potsAt.cls ≠ "java/lang/invoke/VarHandle" ∧ (parseMethodDescriptor yX7_potsAt.desc).map (fun d => d.parameters.length) = some 1 := ⟨rfl, kdN_X7_potsAt⟩
theorem in_X7_potsAt_7 : ∀ w ∈ u_ws RX7 TX7 13, w ∈ wsX7_potsAt := by decide +kernel
theorem fl_X7_potsAt_7 : Cond.fieldLink RX7 7 (TX7 0).1 (TX7 0).2.1 (TX7 0).2.2.1 ∈ wsX7_potsAt := by decide +kernel
abbrev rmX7_potsAt : Room := { frames := 1, cells := 0, slots := 0, locals := 22 }
set_option maxHeartbeats 4000000 in
set_option maxRecDepth 100000 in
theorem k_X7_potsAt (l : Launch) {k : gK} {L : List Nat} {f : Nat → va_E} {o : Nat → Nat} {y : MS} (hW : isMS k L f o y) (hM : mOK y) (wh : Int32) : kR l k L f yX7_potsAt wsX7_potsAt rmX7_potsAt [.ref (o 0), .int wh] (.int (zPotsAt y wh)) := by
  refine kR_of (cc := cX7_potsAt) (maxL := 4) (ret := (some .int)) (by decide) rfl (Nat.le_of_ble_eq_true rfl) ?_
  intro p e s m args below meth c C hr
  refine gx_lv [(0, _), (1, _)] [0, 1] rfl ?_
  refine gx_iconst (v := 0) C dX7_potsAt_0 (by decide) ?_
  refine gx_istore_n C (i := 2) [(2, _), (0, _), (1, _)] dX7_potsAt_1 rfl (by decide) rfl ?_
  refine gx_iconst (v := 0) C dX7_potsAt_2 (by decide) ?_
  refine gx_istore_n C (i := 3) [(3, _), (2, _), (0, _), (1, _)] dX7_potsAt_3 rfl (by decide) rfl ?_
  refine gx_loop (σ := Nat) (fun i => f) (fun i => [(0, .ref (o 0)), (1, .int wh), (2, .int (mk (zPA (y.1 0) wh) i)), (3, .int (nI i))]) (fun i => i ≤ mN y) (fun i => mN y - i) 0 [2, 3, 1, 0] rfl rfl ?_ ?_
  · exact Nat.zero_le _
  intro i hI ih
  try dsimp only at hI ih ⊢
  have h20 := hM.2
  refine gx_iload_n (q := 3) C dX7_potsAt_4 rfl ?_
  refine gx_aload_n (q := 0) C dX7_potsAt_5 rfl ?_
  refine gx_get C (i := 0) (isMS_in hW 0 (Nat.le_of_ble_eq_true rfl)) (isMS_0 hW) rfl in_X7_potsAt_7 (by decide) fl_X7_potsAt_7 rfl dX7_potsAt_6 ?_
  refine gx_bipush (v := 7) C dX7_potsAt_9 (by decide) ?_
  refine gx_ialdN C (isMS_in hW 1 (Nat.le_of_ble_eq_true rfl)) (isMS_a0 hW) (nLit 7) (by omega) (by decide) dX7_potsAt_11 ?_
  refine gx_top (nI (mN y)) hM.1 ?_
  refine gx_icmp_ge (tgt := 41) C dX7_potsAt_12 (by decide) (fun c_12 => ?_) (fun c_12 => ?_)
  · skip
    have hb := (nI_leI (by omega) (by omega)).mp c_12
    refine gx_iload_n (q := 2) C dX7_potsAt_41 rfl ?_
    exact gx_iretR C rfl hr dX7_potsAt_42 (congrArg Value.int (by rw [show i = mN y by omega]; rfl))
  · skip
    have hlt : i < mN y := Nat.lt_of_not_le (fun z => c_12 ((nI_leI (by omega) (by omega)).mpr z))
    refine gx_iload_n (q := 2) C dX7_potsAt_15 rfl ?_
    refine gx_aload_n (q := 0) C dX7_potsAt_16 rfl ?_
    refine gx_iload_n (q := 3) C dX7_potsAt_17 rfl ?_
    refine gx_iconst (v := 4) C dX7_potsAt_18 (by decide) ?_
    refine gx_callR C (k_X7_pot l hW _ _ (i := i) rfl (by omega) (j := 4) (nLit 4) (by omega)) (isMS_in hW 0 (Nat.le_of_ble_eq_true rfl)) (isMS_0 hW) rfl (cwV 2 C.2.2.2.2.1 gX7_potsAt_X7_pot rfl rfl rfl kdV_X7_pot ⟨Nat.le_of_ble_eq_true rfl, Nat.le_of_ble_eq_true rfl⟩) rfl rfl (Nat.le_of_ble_eq_true rfl) ⟨Nat.le_of_ble_eq_true rfl, Nat.le_of_ble_eq_true rfl⟩ dX7_potsAt_19 ?_
    refine gx_iload_n (q := 1) C dX7_potsAt_22 rfl ?_
    refine gx_icmp_ne (tgt := 32) C dX7_potsAt_23 (by decide) (fun c_23 => ?_) (fun c_23 => ?_)
    · skip
      refine gx_iconst (v := 0) C dX7_potsAt_32 (by decide) ?_
      refine gx_ior C dX7_potsAt_33 ?_
      refine gx_istore_n C (i := 2) [(2, _), (0, _), (1, _), (3, _)] dX7_potsAt_34 rfl (by decide) rfl ?_
      refine gx_iinc C (q := 3) (v := nI (i + 1)) [(3, _), (2, _), (0, _), (1, _)] dX7_potsAt_35 rfl (nI_inc i) (by decide) rfl ?_
      refine gx_goto (tgt := 4) C dX7_potsAt_38 (by decide) ?_
      exact gx_back [2, 3, 1, 0] (ih (i + 1) (by omega) (by omega)) rfl (by rw [mk_f (P := zPA (y.1 0) wh) (decide_eq_false c_23), or0]; rfl)
    · skip
      refine gx_iconst (v := 1) C dX7_potsAt_26 (by decide) ?_
      refine gx_iload_n (q := 3) C dX7_potsAt_27 rfl ?_
      refine gx_ishl C dX7_potsAt_28 ?_
      refine gx_goto (tgt := 33) C dX7_potsAt_29 (by decide) ?_
      refine gx_ior C dX7_potsAt_33 ?_
      refine gx_istore_n C (i := 2) [(2, _), (0, _), (1, _), (3, _)] dX7_potsAt_34 rfl (by decide) rfl ?_
      refine gx_iinc C (q := 3) (v := nI (i + 1)) [(3, _), (2, _), (0, _), (1, _)] dX7_potsAt_35 rfl (nI_inc i) (by decide) rfl ?_
      refine gx_goto (tgt := 4) C dX7_potsAt_38 (by decide) ?_
      exact gx_back [2, 3, 1, 0] (ih (i + 1) (by omega) (by omega)) rfl (by rw [mk_t (P := zPA (y.1 0) wh) (decide_eq_true c_23)]; rfl)
theorem kdN_X7_ones : yX7_ones.cls ≠ "java/lang/invoke/MethodHandle" ∧ yX7_ones.cls ≠ "java/lang/invoke/VarHandle" ∧ (parseMethodDescriptor yX7_ones.desc).map (fun d => d.parameters.length) = some 1 := by decide +kernel
theorem kdV_X7_ones : yX7_ones.cls = RX7 ∧ yX7_ones.cls ≠ "java/lang/invoke/MethodHandle" ∧ yX7_ones.cls ≠ "java/lang/invoke/VarHandle" ∧ (parseMethodDescriptor yX7_ones.desc).map (fun d => d.parameters.length) = some 1 := ⟨rfl, kdN_X7_ones⟩
abbrev rmX7_ones : Room := { frames := 0, cells := 0, slots := 0, locals := 0 }
set_option maxHeartbeats 4000000 in
set_option maxRecDepth 100000 in
theorem k_X7_ones (l : Launch) {k : gK} {L : List Nat} {f : Nat → va_E}  (s0 : Int32) : kR l k L f yX7_ones wsX7_ones rmX7_ones [.int s0] (.int (oneN s0 20)) := by
  refine kR_of (cc := cX7_ones) (maxL := 3) (ret := (some .int)) (by decide) rfl (Nat.le_of_ble_eq_true rfl) ?_
  intro p e s m args below meth c C hr
  refine gx_lv [(0, _)] [0] rfl ?_
  refine gx_iconst (v := 0) C dX7_ones_0 (by decide) ?_
  refine gx_istore_n C (i := 1) [(1, _), (0, _)] dX7_ones_1 rfl (by decide) rfl ?_
  refine gx_iconst (v := 0) C dX7_ones_2 (by decide) ?_
  refine gx_istore_n C (i := 2) [(2, _), (1, _), (0, _)] dX7_ones_3 rfl (by decide) rfl ?_
  refine gx_loop (σ := Nat) (fun i => f) (fun i => [(0, .int s0), (1, .int (oneN s0 i)), (2, .int (nI i))]) (fun i => i ≤ 20) (fun i => 20 - i) 0 [2, 1, 0] rfl rfl ?_ ?_
  · exact Nat.zero_le _
  intro i hI ih
  try dsimp only at hI ih ⊢
  refine gx_iload_n (q := 2) C dX7_ones_4 rfl ?_
  refine gx_bipush (v := 20) C dX7_ones_5 (by decide) ?_
  refine gx_icmp_ge (tgt := 24) C dX7_ones_7 (by decide) (fun c_7 => ?_) (fun c_7 => ?_)
  · skip
    have hb := (nI_leI (a := 20) (b := i) (by decide) (by omega)).mp c_7
    refine gx_iload_n (q := 1) C dX7_ones_24 rfl ?_
    exact gx_iretR C rfl hr dX7_ones_25 (congrArg Value.int (by rw [show i = 20 by omega]))
  · skip
    have hlt : i < 20 := Nat.lt_of_not_le (fun z => c_7 ((nI_leI (a := 20) (b := i) (by decide) (by omega)).mpr z))
    refine gx_iload_n (q := 1) C dX7_ones_10 rfl ?_
    refine gx_iload_n (q := 0) C dX7_ones_11 rfl ?_
    refine gx_iload_n (q := 2) C dX7_ones_12 rfl ?_
    refine gx_ishr C dX7_ones_13 ?_
    refine gx_iconst (v := 1) C dX7_ones_14 (by decide) ?_
    refine gx_iand C dX7_ones_15 ?_
    refine gx_iadd C dX7_ones_16 ?_
    refine gx_istore_n C (i := 1) [(1, _), (0, _), (2, _)] dX7_ones_17 rfl (by decide) rfl ?_
    refine gx_iinc C (q := 2) (v := nI (i + 1)) [(2, _), (1, _), (0, _)] dX7_ones_18 rfl (nI_inc i) (by decide) rfl ?_
    refine gx_goto (tgt := 4) C dX7_ones_21 (by decide) ?_
    exact gx_back [2, 1, 0] (ih (i + 1) (by omega) (by omega)) rfl (by rfl)
theorem kdN_X7_freePlaces : yX7_freePlaces.cls ≠ "java/lang/invoke/MethodHandle" ∧ yX7_freePlaces.cls ≠ "java/lang/invoke/VarHandle" ∧ (parseMethodDescriptor yX7_freePlaces.desc).map (fun d => d.parameters.length) = some 0 := by decide +kernel
theorem kdV_X7_freePlaces : yX7_freePlaces.cls = RX7 ∧ yX7_freePlaces.cls ≠ "java/lang/invoke/MethodHandle" ∧ yX7_freePlaces.cls ≠ "java/lang/invoke/VarHandle" ∧ (parseMethodDescriptor yX7_freePlaces.desc).map (fun d => d.parameters.length) = some 0 := ⟨rfl, kdN_X7_freePlaces⟩
def vX7_freePlaces (y : MS)  : Int32 := (24 - (oneN (zPotsAt y 0) 20))
abbrev rmX7_freePlaces : Room := { frames := 2, cells := 0, slots := 0, locals := 45 }
set_option maxHeartbeats 4000000 in
set_option maxRecDepth 100000 in
theorem k_X7_freePlaces (l : Launch) {k : gK} {L : List Nat} {f : Nat → va_E} {o : Nat → Nat} {y : MS} (hW : isMS k L f o y) (hM : mOK y)  : kR l k L f yX7_freePlaces wsX7_freePlaces rmX7_freePlaces [.ref (o 0)] (.int (vX7_freePlaces y )) := by
  refine kR_of (cc := cX7_freePlaces) (maxL := 1) (ret := (some .int)) (by decide) rfl (Nat.le_of_ble_eq_true rfl) ?_
  intro p e s m args below meth c C hr
  refine gx_lv [(0, _)] [0] rfl ?_
  refine gx_bipush (v := 24) C dX7_freePlaces_0 (by decide) ?_
  refine gx_aload_n (q := 0) C dX7_freePlaces_2 rfl ?_
  refine gx_iconst (v := 0) C dX7_freePlaces_3 (by decide) ?_
  refine gx_callR C (k_X7_potsAt l hW hM _) (isMS_in hW 0 (Nat.le_of_ble_eq_true rfl)) (isMS_0 hW) rfl (cwV 1 C.2.2.2.2.1 gX7_freePlaces_X7_potsAt rfl rfl rfl kdV_X7_potsAt ⟨Nat.le_of_ble_eq_true rfl, Nat.le_of_ble_eq_true rfl⟩) rfl rfl (Nat.le_of_ble_eq_true rfl) ⟨Nat.le_of_ble_eq_true rfl, Nat.le_of_ble_eq_true rfl⟩ dX7_freePlaces_4 ?_
  refine gx_callRS C (k_X7_ones l (k := k) (L := L) _) (va_cwS 1 C.2.2.2.2.1 gX7_freePlaces_X7_ones rfl rfl rfl kdN_X7_ones ⟨Nat.le_of_ble_eq_true rfl, Nat.le_of_ble_eq_true rfl⟩) rfl rfl (Nat.le_of_ble_eq_true rfl) ⟨Nat.le_of_ble_eq_true rfl, Nat.le_of_ble_eq_true rfl⟩ dX7_freePlaces_7 ?_
  refine gx_isub C dX7_freePlaces_10 ?_
  exact gx_iretR C rfl hr dX7_freePlaces_11 (congrArg Value.int (rfl).symm)
theorem kdN_X7_isTaken : yX7_isTaken.cls ≠ "java/lang/invoke/MethodHandle" ∧ yX7_isTaken.cls ≠ "java/lang/invoke/VarHandle" ∧ (parseMethodDescriptor yX7_isTaken.desc).map (fun d => d.parameters.length) = some 1 := by decide +kernel
theorem kdV_X7_isTaken : yX7_isTaken.cls = RX7 ∧ yX7_isTaken.cls ≠ "java/lang/invoke/MethodHandle" ∧ yX7_isTaken.cls ≠ "java/lang/invoke/VarHandle" ∧ (parseMethodDescriptor yX7_isTaken.desc).map (fun d => d.parameters.length) = some 1 := ⟨rfl, kdN_X7_isTaken⟩
theorem in_X7_isTaken_7 : ∀ w ∈ u_ws RX7 TX7 13, w ∈ wsX7_isTaken := by decide +kernel
theorem fl_X7_isTaken_7 : Cond.fieldLink RX7 7 (TX7 0).1 (TX7 0).2.1 (TX7 0).2.2.1 ∈ wsX7_isTaken := by decide +kernel
abbrev rmX7_isTaken : Room := { frames := 1, cells := 0, slots := 0, locals := 22 }
set_option maxHeartbeats 4000000 in
set_option maxRecDepth 100000 in
theorem k_X7_isTaken (l : Launch) {k : gK} {L : List Nat} {f : Nat → va_E} {o : Nat → Nat} {y : MS} (hW : isMS k L f o y) (hM : mOK y) (pl : Int32) : kR l k L f yX7_isTaken wsX7_isTaken rmX7_isTaken [.ref (o 0), .int pl] (.int (bI (zTk (y.1 0) pl (mN y)))) := by
  refine kR_of (cc := cX7_isTaken) (maxL := 4) (ret := (some .boolean)) (by decide) rfl (Nat.le_of_ble_eq_true rfl) ?_
  intro p e s m args below meth c C hr
  refine gx_lv [(0, _), (1, _)] [0, 1] rfl ?_
  refine gx_iconst (v := 0) C dX7_isTaken_0 (by decide) ?_
  refine gx_istore_n C (i := 2) [(2, _), (0, _), (1, _)] dX7_isTaken_1 rfl (by decide) rfl ?_
  refine gx_iconst (v := 0) C dX7_isTaken_2 (by decide) ?_
  refine gx_istore_n C (i := 3) [(3, _), (2, _), (0, _), (1, _)] dX7_isTaken_3 rfl (by decide) rfl ?_
  refine gx_loop (σ := Nat) (fun i => f) (fun i => [(0, .ref (o 0)), (1, .int pl), (2, .int (bI (zTk (y.1 0) pl i))), (3, .int (nI i))]) (fun i => i ≤ mN y) (fun i => mN y - i) 0 [2, 3, 1, 0] rfl rfl ?_ ?_
  · exact Nat.zero_le _
  intro i hI ih
  try dsimp only at hI ih ⊢
  have h20 := hM.2
  refine gx_iload_n (q := 3) C dX7_isTaken_4 rfl ?_
  refine gx_aload_n (q := 0) C dX7_isTaken_5 rfl ?_
  refine gx_get C (i := 0) (isMS_in hW 0 (Nat.le_of_ble_eq_true rfl)) (isMS_0 hW) rfl in_X7_isTaken_7 (by decide) fl_X7_isTaken_7 rfl dX7_isTaken_6 ?_
  refine gx_bipush (v := 7) C dX7_isTaken_9 (by decide) ?_
  refine gx_ialdN C (isMS_in hW 1 (Nat.le_of_ble_eq_true rfl)) (isMS_a0 hW) (nLit 7) (by omega) (by decide) dX7_isTaken_11 ?_
  refine gx_top (nI (mN y)) hM.1 ?_
  refine gx_icmp_ge (tgt := 50) C dX7_isTaken_12 (by decide) (fun c_12 => ?_) (fun c_12 => ?_)
  · skip
    have hb := (nI_leI (by omega) (by omega)).mp c_12
    refine gx_iload_n (q := 2) C dX7_isTaken_50 rfl ?_
    exact gx_zretR C rfl hr (bI01 _) dX7_isTaken_51 (congrArg Value.int (by rw [show i = mN y by omega]))
  · skip
    have hlt : i < mN y := Nat.lt_of_not_le (fun z => c_12 ((nI_leI (by omega) (by omega)).mpr z))
    refine gx_iload_n (q := 2) C dX7_isTaken_15 rfl ?_
    refine gx_if_ne (tgt := 38) C dX7_isTaken_16 (by decide) (fun c_16 => ?_) (fun c_16 => ?_)
    · skip
      have h_16 := bI1.mp c_16
      refine gx_iconst (v := 1) C dX7_isTaken_38 (by decide) ?_
      refine gx_goto (tgt := 43) C dX7_isTaken_39 (by decide) ?_
      refine gx_istore_n C (i := 2) [(2, _), (0, _), (1, _), (3, _)] dX7_isTaken_43 rfl (by decide) rfl ?_
      refine gx_iinc C (q := 3) (v := nI (i + 1)) [(3, _), (2, _), (0, _), (1, _)] dX7_isTaken_44 rfl (nI_inc i) (by decide) rfl ?_
      refine gx_goto (tgt := 4) C dX7_isTaken_47 (by decide) ?_
      have hst : zTk (y.1 0) pl (i + 1) = true := by simp [zTk, h_16]
      exact gx_back [2, 3, 1, 0] (ih (i + 1) (by omega) (by omega)) rfl (by rw [hst]; rfl)
    · skip
      have h_16 := bI0.mp c_16
      refine gx_aload_n (q := 0) C dX7_isTaken_19 rfl ?_
      refine gx_iload_n (q := 3) C dX7_isTaken_20 rfl ?_
      refine gx_iconst (v := 4) C dX7_isTaken_21 (by decide) ?_
      refine gx_callR C (k_X7_pot l hW _ _ (i := i) rfl (by omega) (j := 4) (nLit 4) (by omega)) (isMS_in hW 0 (Nat.le_of_ble_eq_true rfl)) (isMS_0 hW) rfl (cwV 2 C.2.2.2.2.1 gX7_isTaken_X7_pot rfl rfl rfl kdV_X7_pot ⟨Nat.le_of_ble_eq_true rfl, Nat.le_of_ble_eq_true rfl⟩) rfl rfl (Nat.le_of_ble_eq_true rfl) ⟨Nat.le_of_ble_eq_true rfl, Nat.le_of_ble_eq_true rfl⟩ dX7_isTaken_22 ?_
      refine gx_if_ne (tgt := 42) C dX7_isTaken_25 (by decide) (fun c_25 => ?_) (fun c_25 => ?_)
      · skip
        refine gx_iconst (v := 0) C dX7_isTaken_42 (by decide) ?_
        refine gx_istore_n C (i := 2) [(2, _), (0, _), (1, _), (3, _)] dX7_isTaken_43 rfl (by decide) rfl ?_
        refine gx_iinc C (q := 3) (v := nI (i + 1)) [(3, _), (2, _), (0, _), (1, _)] dX7_isTaken_44 rfl (nI_inc i) (by decide) rfl ?_
        refine gx_goto (tgt := 4) C dX7_isTaken_47 (by decide) ?_
        have hst : zTk (y.1 0) pl (i + 1) = false := by simp [zTk, h_16, c_25]
        exact gx_back [2, 3, 1, 0] (ih (i + 1) (by omega) (by omega)) rfl (by rw [hst]; rfl)
      · skip
        refine gx_aload_n (q := 0) C dX7_isTaken_28 rfl ?_
        refine gx_iload_n (q := 3) C dX7_isTaken_29 rfl ?_
        refine gx_iconst (v := 5) C dX7_isTaken_30 (by decide) ?_
        refine gx_callR C (k_X7_pot l hW _ _ (i := i) rfl (by omega) (j := 5) (nLit 5) (by omega)) (isMS_in hW 0 (Nat.le_of_ble_eq_true rfl)) (isMS_0 hW) rfl (cwV 2 C.2.2.2.2.1 gX7_isTaken_X7_pot rfl rfl rfl kdV_X7_pot ⟨Nat.le_of_ble_eq_true rfl, Nat.le_of_ble_eq_true rfl⟩) rfl rfl (Nat.le_of_ble_eq_true rfl) ⟨Nat.le_of_ble_eq_true rfl, Nat.le_of_ble_eq_true rfl⟩ dX7_isTaken_31 ?_
        refine gx_iload_n (q := 1) C dX7_isTaken_34 rfl ?_
        refine gx_icmp_ne (tgt := 42) C dX7_isTaken_35 (by decide) (fun c_35 => ?_) (fun c_35 => ?_)
        · skip
          refine gx_iconst (v := 0) C dX7_isTaken_42 (by decide) ?_
          refine gx_istore_n C (i := 2) [(2, _), (0, _), (1, _), (3, _)] dX7_isTaken_43 rfl (by decide) rfl ?_
          refine gx_iinc C (q := 3) (v := nI (i + 1)) [(3, _), (2, _), (0, _), (1, _)] dX7_isTaken_44 rfl (nI_inc i) (by decide) rfl ?_
          refine gx_goto (tgt := 4) C dX7_isTaken_47 (by decide) ?_
          have hst : zTk (y.1 0) pl (i + 1) = false := by simp [zTk, h_16, c_25, c_35]
          exact gx_back [2, 3, 1, 0] (ih (i + 1) (by omega) (by omega)) rfl (by rw [hst]; rfl)
        · skip
          refine gx_iconst (v := 1) C dX7_isTaken_38 (by decide) ?_
          refine gx_goto (tgt := 43) C dX7_isTaken_39 (by decide) ?_
          refine gx_istore_n C (i := 2) [(2, _), (0, _), (1, _), (3, _)] dX7_isTaken_43 rfl (by decide) rfl ?_
          refine gx_iinc C (q := 3) (v := nI (i + 1)) [(3, _), (2, _), (0, _), (1, _)] dX7_isTaken_44 rfl (nI_inc i) (by decide) rfl ?_
          refine gx_goto (tgt := 4) C dX7_isTaken_47 (by decide) ?_
          have hst : zTk (y.1 0) pl (i + 1) = true := by simp [zTk, h_16, c_25, c_35]
          exact gx_back [2, 3, 1, 0] (ih (i + 1) (by omega) (by omega)) rfl (by rw [hst]; rfl)
theorem kdN_X7_putOnRack : yX7_putOnRack.cls ≠ "java/lang/invoke/MethodHandle" ∧ yX7_putOnRack.cls ≠ "java/lang/invoke/VarHandle" ∧ (parseMethodDescriptor yX7_putOnRack.desc).map (fun d => d.parameters.length) = some 1 := by decide +kernel
theorem kdV_X7_putOnRack : yX7_putOnRack.cls = RX7 ∧ yX7_putOnRack.cls ≠ "java/lang/invoke/MethodHandle" ∧ yX7_putOnRack.cls ≠ "java/lang/invoke/VarHandle" ∧ (parseMethodDescriptor yX7_putOnRack.desc).map (fun d => d.parameters.length) = some 1 := ⟨rfl, kdN_X7_putOnRack⟩
abbrev rmX7_putOnRack : Room := { frames := 2, cells := 0, slots := 0, locals := 45 }
set_option maxHeartbeats 4000000 in
set_option maxRecDepth 100000 in
theorem k_X7_putOnRack (l : Launch) {k : gK} {L : List Nat} {f : Nat → va_E} (hL : L.Nodup) {o : Nat → Nat} {y : MS} (hW : isMS k L f o y) (hM : mOK y) (q : Int32) {i : Nat} (hq : q = nI i) (hq2 : i < 20) : kM l k L f yX7_putOnRack wsX7_putOnRack rmX7_putOnRack [.ref (o 0), .int q] (mP k L o f none (mRow (mRow y 0 (upd (y.1 0) (35 + 9 * i + 4) 0)) 0 (upd (upd (y.1 0) (35 + 9 * i + 4) 0) (35 + 9 * i + 5) (zPlace y)))) := by
  refine kM_of (cc := cX7_putOnRack) (maxL := 3) (ret := none) (by decide) rfl (Nat.le_of_ble_eq_true rfl) ?_
  intro p e s m args below meth c C hr
  have hD : gD (fun q => q ∈ L) L := ⟨hL, fun _ h => h⟩
  refine gx_lv [(0, _), (1, _)] [0, 1] rfl ?_
  refine gx_iconst (v := 0) C dX7_putOnRack_0 (by decide) ?_
  refine gx_istore_n C (i := 2) [(2, _), (0, _), (1, _)] dX7_putOnRack_1 rfl (by decide) rfl ?_
  refine gx_loop (σ := Nat) (fun j => f) (fun j => [(0, .ref (o 0)), (1, .int q), (2, .int (nI j))]) (fun j => j ≤ 21 ∧ fnN (zFreeP y) j (21 - j) = fnN (zFreeP y) 0 21) (fun j => 21 - j) 0 [1, 2, 0] rfl rfl ?_ ?_
  · exact ⟨by decide, rfl⟩
  intro j hI ih
  try dsimp only at hI ih ⊢
  have hst := fnN_stop (P := zFreeP y) (i := 0) (n := 21) (by obtain ⟨z, h1, h2⟩ := zFree_ex y hM.2; exact ⟨z, by omega, by omega, h2⟩)
  refine gx_aload_n (q := 0) C dX7_putOnRack_2 rfl ?_
  refine gx_iload_n (q := 2) C dX7_putOnRack_3 rfl ?_
  refine gx_callR C (k_X7_isTaken l hW hM _) (isMS_in hW 0 (Nat.le_of_ble_eq_true rfl)) (isMS_0 hW) rfl (cwV 1 C.2.2.2.2.1 gX7_putOnRack_X7_isTaken rfl rfl rfl kdV_X7_isTaken ⟨Nat.le_of_ble_eq_true rfl, Nat.le_of_ble_eq_true rfl⟩) rfl rfl (Nat.le_of_ble_eq_true rfl) ⟨Nat.le_of_ble_eq_true rfl, Nat.le_of_ble_eq_true rfl⟩ dX7_putOnRack_4 ?_
  refine gx_if_eq (tgt := 16) C dX7_putOnRack_7 (by decide) (fun c_7 => ?_) (fun c_7 => ?_)
  · skip
    have h_7 := bI0.mp c_7
    have hpl : zPlace y = nI j := by
      have hj : fnN (zFreeP y) 0 21 = j := by
        rw [← hI.2]
        rcases Nat.eq_zero_or_pos (21 - j) with z | z
        · rw [z]; rfl
        · obtain ⟨n, hn⟩ : ∃ n, 21 - j = n + 1 := ⟨20 - j, by omega⟩
          rw [hn]; exact if_neg (bF h_7)
      rw [zPlace, hj]
    refine gx_aload_n (q := 0) C dX7_putOnRack_16 rfl ?_
    refine gx_iload_n (q := 1) C dX7_putOnRack_17 rfl ?_
    refine gx_iconst (v := 4) C dX7_putOnRack_18 (by decide) ?_
    refine gx_iconst (v := 0) C dX7_putOnRack_19 (by decide) ?_
    refine gx_callSv C hD (gFr_rf (f := f)) (k_X7_put l hL hW _ _ _ (i := i) hq (by omega) (j := 4) (nLit 4) (by omega)) (isMS_in hW 0 (Nat.le_of_ble_eq_true rfl)) (isMS_0 hW) rfl (cwV 3 C.2.2.2.2.1 gX7_putOnRack_X7_put rfl rfl rfl kdV_X7_put ⟨Nat.le_of_ble_eq_true rfl, Nat.le_of_ble_eq_true rfl⟩) rfl rfl (Nat.le_of_ble_eq_true rfl) ⟨Nat.le_of_ble_eq_true rfl, Nat.le_of_ble_eq_true rfl⟩ dX7_putOnRack_20 (fun f_1 hW_1 hF_1 => ?_)
    refine gx_aload_n (q := 0) C dX7_putOnRack_23 rfl ?_
    refine gx_iload_n (q := 1) C dX7_putOnRack_24 rfl ?_
    refine gx_iconst (v := 5) C dX7_putOnRack_25 (by decide) ?_
    refine gx_iload_n (q := 2) C dX7_putOnRack_26 rfl ?_
    refine gx_callSv C hD hF_1 (k_X7_put l hL hW_1 _ _ _ (i := i) hq (by omega) (j := 5) (nLit 5) (by omega)) (isMS_in hW_1 0 (Nat.le_of_ble_eq_true rfl)) (isMS_0 hW_1) rfl (cwV 3 C.2.2.2.2.1 gX7_putOnRack_X7_put rfl rfl rfl kdV_X7_put ⟨Nat.le_of_ble_eq_true rfl, Nat.le_of_ble_eq_true rfl⟩) rfl rfl (Nat.le_of_ble_eq_true rfl) ⟨Nat.le_of_ble_eq_true rfl, Nat.le_of_ble_eq_true rfl⟩ dX7_putOnRack_27 (fun f_2 hW_2 hF_2 => ?_)
    exact gx_vretS C hr hW_2 hF_2 dX7_putOnRack_30 (by rw [hpl]; rfl)
  · skip
    have h_7 := bI1.mp c_7
    have hlt : j < 21 := by
      apply Classical.byContradiction
      intro hz
      have h3 := hI.2
      rw [show 21 - j = 0 by omega] at h3
      have h4 : fnN (zFreeP y) 0 21 = j := h3.symm
      have h5 := hst.1
      rw [h4] at h5
      exact absurd (h_7.symm.trans h5) (by decide)
    obtain ⟨n, hn⟩ : ∃ n, 21 - j = n + 1 := ⟨20 - j, by omega⟩
    have h2 := hI.2
    rw [hn] at h2
    refine gx_iinc C (q := 2) (v := nI (j + 1)) [(2, _), (0, _), (1, _)] dX7_putOnRack_10 rfl (nI_inc j) (by decide) rfl ?_
    refine gx_goto (tgt := 2) C dX7_putOnRack_13 (by decide) ?_
    rw [show fnN (zFreeP y) j (n + 1) = fnN (zFreeP y) (j + 1) n from if_pos h_7] at h2
    exact gx_back [1, 2, 0] (ih (j + 1) ⟨by omega, by rw [show 21 - (j + 1) = n by omega]; exact h2⟩ (by omega)) rfl (by rfl)
theorem kdN_X7_sizesInKiln : yX7_sizesInKiln.cls ≠ "java/lang/invoke/MethodHandle" ∧ yX7_sizesInKiln.cls ≠ "java/lang/invoke/VarHandle" ∧ (parseMethodDescriptor yX7_sizesInKiln.desc).map (fun d => d.parameters.length) = some 0 := by decide +kernel
theorem kdV_X7_sizesInKiln : yX7_sizesInKiln.cls = RX7 ∧ yX7_sizesInKiln.cls ≠ "java/lang/invoke/MethodHandle" ∧ yX7_sizesInKiln.cls ≠ "java/lang/invoke/VarHandle" ∧ (parseMethodDescriptor yX7_sizesInKiln.desc).map (fun d => d.parameters.length) = some 0 := ⟨rfl, kdN_X7_sizesInKiln⟩
theorem in_X7_sizesInKiln_7 : ∀ w ∈ u_ws RX7 TX7 13, w ∈ wsX7_sizesInKiln := by decide +kernel
theorem fl_X7_sizesInKiln_7 : Cond.fieldLink RX7 7 (TX7 0).1 (TX7 0).2.1 (TX7 0).2.2.1 ∈ wsX7_sizesInKiln := by decide +kernel
abbrev rmX7_sizesInKiln : Room := { frames := 1, cells := 0, slots := 0, locals := 22 }
set_option maxHeartbeats 4000000 in
set_option maxRecDepth 100000 in
theorem k_X7_sizesInKiln (l : Launch) {k : gK} {L : List Nat} {f : Nat → va_E} {o : Nat → Nat} {y : MS} (hW : isMS k L f o y) (hM : mOK y)  : kR l k L f yX7_sizesInKiln wsX7_sizesInKiln rmX7_sizesInKiln [.ref (o 0)] (.int (zSz (y.1 0) (mN y))) := by
  refine kR_of (cc := cX7_sizesInKiln) (maxL := 3) (ret := (some .int)) (by decide) rfl (Nat.le_of_ble_eq_true rfl) ?_
  intro p e s m args below meth c C hr
  refine gx_lv [(0, _)] [0] rfl ?_
  refine gx_iconst (v := 0) C dX7_sizesInKiln_0 (by decide) ?_
  refine gx_istore_n C (i := 1) [(1, _), (0, _)] dX7_sizesInKiln_1 rfl (by decide) rfl ?_
  refine gx_iconst (v := 0) C dX7_sizesInKiln_2 (by decide) ?_
  refine gx_istore_n C (i := 2) [(2, _), (1, _), (0, _)] dX7_sizesInKiln_3 rfl (by decide) rfl ?_
  refine gx_loop (σ := Nat) (fun i => f) (fun i => [(0, .ref (o 0)), (1, .int (zSz (y.1 0) i)), (2, .int (nI i))]) (fun i => i ≤ mN y) (fun i => mN y - i) 0 [2, 1, 0] rfl rfl ?_ ?_
  · exact Nat.zero_le _
  intro i hI ih
  try dsimp only at hI ih ⊢
  have h20 := hM.2
  refine gx_iload_n (q := 2) C dX7_sizesInKiln_4 rfl ?_
  refine gx_aload_n (q := 0) C dX7_sizesInKiln_5 rfl ?_
  refine gx_get C (i := 0) (isMS_in hW 0 (Nat.le_of_ble_eq_true rfl)) (isMS_0 hW) rfl in_X7_sizesInKiln_7 (by decide) fl_X7_sizesInKiln_7 rfl dX7_sizesInKiln_6 ?_
  refine gx_bipush (v := 7) C dX7_sizesInKiln_9 (by decide) ?_
  refine gx_ialdN C (isMS_in hW 1 (Nat.le_of_ble_eq_true rfl)) (isMS_a0 hW) (nLit 7) (by omega) (by decide) dX7_sizesInKiln_11 ?_
  refine gx_top (nI (mN y)) hM.1 ?_
  refine gx_icmp_ge (tgt := 44) C dX7_sizesInKiln_12 (by decide) (fun c_12 => ?_) (fun c_12 => ?_)
  · skip
    have hb := (nI_leI (by omega) (by omega)).mp c_12
    refine gx_iload_n (q := 1) C dX7_sizesInKiln_44 rfl ?_
    exact gx_iretR C rfl hr dX7_sizesInKiln_45 (congrArg Value.int (by rw [show i = mN y by omega]))
  · skip
    have hlt : i < mN y := Nat.lt_of_not_le (fun z => c_12 ((nI_leI (by omega) (by omega)).mpr z))
    refine gx_iload_n (q := 1) C dX7_sizesInKiln_15 rfl ?_
    refine gx_aload_n (q := 0) C dX7_sizesInKiln_16 rfl ?_
    refine gx_iload_n (q := 2) C dX7_sizesInKiln_17 rfl ?_
    refine gx_iconst (v := 4) C dX7_sizesInKiln_18 (by decide) ?_
    refine gx_callR C (k_X7_pot l hW _ _ (i := i) rfl (by omega) (j := 4) (nLit 4) (by omega)) (isMS_in hW 0 (Nat.le_of_ble_eq_true rfl)) (isMS_0 hW) rfl (cwV 2 C.2.2.2.2.1 gX7_sizesInKiln_X7_pot rfl rfl rfl kdV_X7_pot ⟨Nat.le_of_ble_eq_true rfl, Nat.le_of_ble_eq_true rfl⟩) rfl rfl (Nat.le_of_ble_eq_true rfl) ⟨Nat.le_of_ble_eq_true rfl, Nat.le_of_ble_eq_true rfl⟩ dX7_sizesInKiln_19 ?_
    refine gx_iconst (v := 1) C dX7_sizesInKiln_22 (by decide) ?_
    refine gx_icmp_ne (tgt := 35) C dX7_sizesInKiln_23 (by decide) (fun c_23 => ?_) (fun c_23 => ?_)
    · skip
      refine gx_iconst (v := 0) C dX7_sizesInKiln_35 (by decide) ?_
      refine gx_iadd C dX7_sizesInKiln_36 ?_
      refine gx_istore_n C (i := 1) [(1, _), (0, _), (2, _)] dX7_sizesInKiln_37 rfl (by decide) rfl ?_
      refine gx_iinc C (q := 2) (v := nI (i + 1)) [(2, _), (1, _), (0, _)] dX7_sizesInKiln_38 rfl (nI_inc i) (by decide) rfl ?_
      refine gx_goto (tgt := 4) C dX7_sizesInKiln_41 (by decide) ?_
      exact gx_back [2, 1, 0] (ih (i + 1) (by omega) (by omega)) rfl (by rw [show zSz (y.1 0) (i + 1) = _ from if_neg c_23, add0]; rfl)
    · skip
      refine gx_aload_n (q := 0) C dX7_sizesInKiln_26 rfl ?_
      refine gx_iload_n (q := 2) C dX7_sizesInKiln_27 rfl ?_
      refine gx_iconst (v := 1) C dX7_sizesInKiln_28 (by decide) ?_
      refine gx_callR C (k_X7_pot l hW _ _ (i := i) rfl (by omega) (j := 1) (nLit 1) (by omega)) (isMS_in hW 0 (Nat.le_of_ble_eq_true rfl)) (isMS_0 hW) rfl (cwV 2 C.2.2.2.2.1 gX7_sizesInKiln_X7_pot rfl rfl rfl kdV_X7_pot ⟨Nat.le_of_ble_eq_true rfl, Nat.le_of_ble_eq_true rfl⟩) rfl rfl (Nat.le_of_ble_eq_true rfl) ⟨Nat.le_of_ble_eq_true rfl, Nat.le_of_ble_eq_true rfl⟩ dX7_sizesInKiln_29 ?_
      refine gx_goto (tgt := 36) C dX7_sizesInKiln_32 (by decide) ?_
      refine gx_iadd C dX7_sizesInKiln_36 ?_
      refine gx_istore_n C (i := 1) [(1, _), (0, _), (2, _)] dX7_sizesInKiln_37 rfl (by decide) rfl ?_
      refine gx_iinc C (q := 2) (v := nI (i + 1)) [(2, _), (1, _), (0, _)] dX7_sizesInKiln_38 rfl (nI_inc i) (by decide) rfl ?_
      refine gx_goto (tgt := 4) C dX7_sizesInKiln_41 (by decide) ?_
      exact gx_back [2, 1, 0] (ih (i + 1) (by omega) (by omega)) rfl (by rw [show zSz (y.1 0) (i + 1) = _ from if_pos c_23]; rfl)
theorem kdN_X7_isOtherFiring : yX7_isOtherFiring.cls ≠ "java/lang/invoke/MethodHandle" ∧ yX7_isOtherFiring.cls ≠ "java/lang/invoke/VarHandle" ∧ (parseMethodDescriptor yX7_isOtherFiring.desc).map (fun d => d.parameters.length) = some 1 := by decide +kernel
theorem kdV_X7_isOtherFiring : yX7_isOtherFiring.cls = RX7 ∧ yX7_isOtherFiring.cls ≠ "java/lang/invoke/MethodHandle" ∧ yX7_isOtherFiring.cls ≠ "java/lang/invoke/VarHandle" ∧ (parseMethodDescriptor yX7_isOtherFiring.desc).map (fun d => d.parameters.length) = some 1 := ⟨rfl, kdN_X7_isOtherFiring⟩
theorem in_X7_isOtherFiring_7 : ∀ w ∈ u_ws RX7 TX7 13, w ∈ wsX7_isOtherFiring := by decide +kernel
theorem fl_X7_isOtherFiring_7 : Cond.fieldLink RX7 7 (TX7 0).1 (TX7 0).2.1 (TX7 0).2.2.1 ∈ wsX7_isOtherFiring := by decide +kernel
abbrev rmX7_isOtherFiring : Room := { frames := 1, cells := 0, slots := 0, locals := 22 }
set_option maxHeartbeats 4000000 in
set_option maxRecDepth 100000 in
theorem k_X7_isOtherFiring (l : Launch) {k : gK} {L : List Nat} {f : Nat → va_E} {o : Nat → Nat} {y : MS} (hW : isMS k L f o y) (hM : mOK y) (q : Int32) {j : Nat} (hq : q = nI j) (hq2 : j < 20) : kR l k L f yX7_isOtherFiring wsX7_isOtherFiring rmX7_isOtherFiring [.ref (o 0), .int q] (.int (bI (zOther (y.1 0) (y.1 0 (35 + 9 * j + 3)) (mN y)))) := by
  refine kR_of (cc := cX7_isOtherFiring) (maxL := 4) (ret := (some .boolean)) (by decide) rfl (Nat.le_of_ble_eq_true rfl) ?_
  intro p e s m args below meth c C hr
  refine gx_lv [(0, _), (1, _)] [0, 1] rfl ?_
  refine gx_iconst (v := 0) C dX7_isOtherFiring_0 (by decide) ?_
  refine gx_istore_n C (i := 2) [(2, _), (0, _), (1, _)] dX7_isOtherFiring_1 rfl (by decide) rfl ?_
  refine gx_iconst (v := 0) C dX7_isOtherFiring_2 (by decide) ?_
  refine gx_istore_n C (i := 3) [(3, _), (2, _), (0, _), (1, _)] dX7_isOtherFiring_3 rfl (by decide) rfl ?_
  refine gx_loop (σ := Nat) (fun i => f) (fun i => [(0, .ref (o 0)), (1, .int q), (2, .int (bI (zOther (y.1 0) (y.1 0 (35 + 9 * j + 3)) i))), (3, .int (nI i))]) (fun i => i ≤ mN y) (fun i => mN y - i) 0 [2, 3, 1, 0] rfl rfl ?_ ?_
  · exact Nat.zero_le _
  intro i hI ih
  try dsimp only at hI ih ⊢
  have h20 := hM.2
  refine gx_iload_n (q := 3) C dX7_isOtherFiring_4 rfl ?_
  refine gx_aload_n (q := 0) C dX7_isOtherFiring_5 rfl ?_
  refine gx_get C (i := 0) (isMS_in hW 0 (Nat.le_of_ble_eq_true rfl)) (isMS_0 hW) rfl in_X7_isOtherFiring_7 (by decide) fl_X7_isOtherFiring_7 rfl dX7_isOtherFiring_6 ?_
  refine gx_bipush (v := 7) C dX7_isOtherFiring_9 (by decide) ?_
  refine gx_ialdN C (isMS_in hW 1 (Nat.le_of_ble_eq_true rfl)) (isMS_a0 hW) (nLit 7) (by omega) (by decide) dX7_isOtherFiring_11 ?_
  refine gx_top (nI (mN y)) hM.1 ?_
  refine gx_icmp_ge (tgt := 56) C dX7_isOtherFiring_12 (by decide) (fun c_12 => ?_) (fun c_12 => ?_)
  · skip
    have hb := (nI_leI (by omega) (by omega)).mp c_12
    refine gx_iload_n (q := 2) C dX7_isOtherFiring_56 rfl ?_
    exact gx_zretR C rfl hr (bI01 _) dX7_isOtherFiring_57 (congrArg Value.int (by rw [show i = mN y by omega]))
  · skip
    have hlt : i < mN y := Nat.lt_of_not_le (fun z => c_12 ((nI_leI (by omega) (by omega)).mpr z))
    refine gx_iload_n (q := 2) C dX7_isOtherFiring_15 rfl ?_
    refine gx_if_ne (tgt := 44) C dX7_isOtherFiring_16 (by decide) (fun c_16 => ?_) (fun c_16 => ?_)
    · skip
      have h_16 := bI1.mp c_16
      refine gx_iconst (v := 1) C dX7_isOtherFiring_44 (by decide) ?_
      refine gx_goto (tgt := 49) C dX7_isOtherFiring_45 (by decide) ?_
      refine gx_istore_n C (i := 2) [(2, _), (0, _), (1, _), (3, _)] dX7_isOtherFiring_49 rfl (by decide) rfl ?_
      refine gx_iinc C (q := 3) (v := nI (i + 1)) [(3, _), (2, _), (0, _), (1, _)] dX7_isOtherFiring_50 rfl (nI_inc i) (by decide) rfl ?_
      refine gx_goto (tgt := 4) C dX7_isOtherFiring_53 (by decide) ?_
      have hst : zOther (y.1 0) (y.1 0 (35 + 9 * j + 3)) (i + 1) = true := by simp [zOther, h_16]
      exact gx_back [2, 3, 1, 0] (ih (i + 1) (by omega) (by omega)) rfl (by rw [hst]; rfl)
    · skip
      have h_16 := bI0.mp c_16
      refine gx_aload_n (q := 0) C dX7_isOtherFiring_19 rfl ?_
      refine gx_iload_n (q := 3) C dX7_isOtherFiring_20 rfl ?_
      refine gx_iconst (v := 4) C dX7_isOtherFiring_21 (by decide) ?_
      refine gx_callR C (k_X7_pot l hW _ _ (i := i) rfl (by omega) (j := 4) (nLit 4) (by omega)) (isMS_in hW 0 (Nat.le_of_ble_eq_true rfl)) (isMS_0 hW) rfl (cwV 2 C.2.2.2.2.1 gX7_isOtherFiring_X7_pot rfl rfl rfl kdV_X7_pot ⟨Nat.le_of_ble_eq_true rfl, Nat.le_of_ble_eq_true rfl⟩) rfl rfl (Nat.le_of_ble_eq_true rfl) ⟨Nat.le_of_ble_eq_true rfl, Nat.le_of_ble_eq_true rfl⟩ dX7_isOtherFiring_22 ?_
      refine gx_iconst (v := 1) C dX7_isOtherFiring_25 (by decide) ?_
      refine gx_icmp_ne (tgt := 48) C dX7_isOtherFiring_26 (by decide) (fun c_26 => ?_) (fun c_26 => ?_)
      · skip
        refine gx_iconst (v := 0) C dX7_isOtherFiring_48 (by decide) ?_
        refine gx_istore_n C (i := 2) [(2, _), (0, _), (1, _), (3, _)] dX7_isOtherFiring_49 rfl (by decide) rfl ?_
        refine gx_iinc C (q := 3) (v := nI (i + 1)) [(3, _), (2, _), (0, _), (1, _)] dX7_isOtherFiring_50 rfl (nI_inc i) (by decide) rfl ?_
        refine gx_goto (tgt := 4) C dX7_isOtherFiring_53 (by decide) ?_
        have hst : zOther (y.1 0) (y.1 0 (35 + 9 * j + 3)) (i + 1) = false := by simp [zOther, h_16, c_26]
        exact gx_back [2, 3, 1, 0] (ih (i + 1) (by omega) (by omega)) rfl (by rw [hst]; rfl)
      · skip
        refine gx_aload_n (q := 0) C dX7_isOtherFiring_29 rfl ?_
        refine gx_iload_n (q := 3) C dX7_isOtherFiring_30 rfl ?_
        refine gx_iconst (v := 3) C dX7_isOtherFiring_31 (by decide) ?_
        refine gx_callR C (k_X7_pot l hW _ _ (i := i) rfl (by omega) (j := 3) (nLit 3) (by omega)) (isMS_in hW 0 (Nat.le_of_ble_eq_true rfl)) (isMS_0 hW) rfl (cwV 2 C.2.2.2.2.1 gX7_isOtherFiring_X7_pot rfl rfl rfl kdV_X7_pot ⟨Nat.le_of_ble_eq_true rfl, Nat.le_of_ble_eq_true rfl⟩) rfl rfl (Nat.le_of_ble_eq_true rfl) ⟨Nat.le_of_ble_eq_true rfl, Nat.le_of_ble_eq_true rfl⟩ dX7_isOtherFiring_32 ?_
        refine gx_aload_n (q := 0) C dX7_isOtherFiring_35 rfl ?_
        refine gx_iload_n (q := 1) C dX7_isOtherFiring_36 rfl ?_
        refine gx_iconst (v := 3) C dX7_isOtherFiring_37 (by decide) ?_
        refine gx_callR C (k_X7_pot l hW _ _ (i := j) hq (by omega) (j := 3) (nLit 3) (by omega)) (isMS_in hW 0 (Nat.le_of_ble_eq_true rfl)) (isMS_0 hW) rfl (cwV 2 C.2.2.2.2.1 gX7_isOtherFiring_X7_pot rfl rfl rfl kdV_X7_pot ⟨Nat.le_of_ble_eq_true rfl, Nat.le_of_ble_eq_true rfl⟩) rfl rfl (Nat.le_of_ble_eq_true rfl) ⟨Nat.le_of_ble_eq_true rfl, Nat.le_of_ble_eq_true rfl⟩ dX7_isOtherFiring_38 ?_
        refine gx_icmp_eq (tgt := 48) C dX7_isOtherFiring_41 (by decide) (fun c_41 => ?_) (fun c_41 => ?_)
        · skip
          refine gx_iconst (v := 0) C dX7_isOtherFiring_48 (by decide) ?_
          refine gx_istore_n C (i := 2) [(2, _), (0, _), (1, _), (3, _)] dX7_isOtherFiring_49 rfl (by decide) rfl ?_
          refine gx_iinc C (q := 3) (v := nI (i + 1)) [(3, _), (2, _), (0, _), (1, _)] dX7_isOtherFiring_50 rfl (nI_inc i) (by decide) rfl ?_
          refine gx_goto (tgt := 4) C dX7_isOtherFiring_53 (by decide) ?_
          have hst : zOther (y.1 0) (y.1 0 (35 + 9 * j + 3)) (i + 1) = false := by simp [zOther, h_16, c_26, c_41]
          exact gx_back [2, 3, 1, 0] (ih (i + 1) (by omega) (by omega)) rfl (by rw [hst]; rfl)
        · skip
          refine gx_iconst (v := 1) C dX7_isOtherFiring_44 (by decide) ?_
          refine gx_goto (tgt := 49) C dX7_isOtherFiring_45 (by decide) ?_
          refine gx_istore_n C (i := 2) [(2, _), (0, _), (1, _), (3, _)] dX7_isOtherFiring_49 rfl (by decide) rfl ?_
          refine gx_iinc C (q := 3) (v := nI (i + 1)) [(3, _), (2, _), (0, _), (1, _)] dX7_isOtherFiring_50 rfl (nI_inc i) (by decide) rfl ?_
          refine gx_goto (tgt := 4) C dX7_isOtherFiring_53 (by decide) ?_
          have hst : zOther (y.1 0) (y.1 0 (35 + 9 * j + 3)) (i + 1) = true := by simp [zOther, h_16, c_26, c_41]
          exact gx_back [2, 3, 1, 0] (ih (i + 1) (by omega) (by omega)) rfl (by rw [hst]; rfl)
theorem kdN_X7_toDry : yX7_toDry.cls ≠ "java/lang/invoke/MethodHandle" ∧ yX7_toDry.cls ≠ "java/lang/invoke/VarHandle" ∧ (parseMethodDescriptor yX7_toDry.desc).map (fun d => d.parameters.length) = some 1 := by decide +kernel
theorem kdV_X7_toDry : yX7_toDry.cls = RX7 ∧ yX7_toDry.cls ≠ "java/lang/invoke/MethodHandle" ∧ yX7_toDry.cls ≠ "java/lang/invoke/VarHandle" ∧ (parseMethodDescriptor yX7_toDry.desc).map (fun d => d.parameters.length) = some 1 := ⟨rfl, kdN_X7_toDry⟩
def vX7_toDry (y : MS) (q : Int32) (i : Nat) : Int32 := (((y.1 0 (2)) * (y.1 0 (35 + 9 * i + 1))) - (y.1 0 (35 + 9 * i + 6)))
theorem in_X7_toDry_7 : ∀ w ∈ u_ws RX7 TX7 13, w ∈ wsX7_toDry := by decide +kernel
theorem fl_X7_toDry_7 : Cond.fieldLink RX7 7 (TX7 0).1 (TX7 0).2.1 (TX7 0).2.2.1 ∈ wsX7_toDry := by decide +kernel
abbrev rmX7_toDry : Room := { frames := 1, cells := 0, slots := 0, locals := 22 }
set_option maxHeartbeats 4000000 in
set_option maxRecDepth 100000 in
theorem k_X7_toDry (l : Launch) {k : gK} {L : List Nat} {f : Nat → va_E} {o : Nat → Nat} {y : MS} (hW : isMS k L f o y) (q : Int32) {i : Nat} (hq : q = nI i) (hq2 : i < 20) : kR l k L f yX7_toDry wsX7_toDry rmX7_toDry [.ref (o 0), .int q] (.int (vX7_toDry y q i)) := by
  refine kR_of (cc := cX7_toDry) (maxL := 2) (ret := (some .int)) (by decide) rfl (Nat.le_of_ble_eq_true rfl) ?_
  intro p e s m args below meth c C hr
  refine gx_lv [(0, _), (1, _)] [0, 1] rfl ?_
  refine gx_aload_n (q := 0) C dX7_toDry_0 rfl ?_
  refine gx_get C (i := 0) (isMS_in hW 0 (Nat.le_of_ble_eq_true rfl)) (isMS_0 hW) rfl in_X7_toDry_7 (by decide) fl_X7_toDry_7 rfl dX7_toDry_1 ?_
  refine gx_iconst (v := 2) C dX7_toDry_4 (by decide) ?_
  refine gx_ialdN C (isMS_in hW 1 (Nat.le_of_ble_eq_true rfl)) (isMS_a0 hW) (nLit 2) (by omega) (by decide) dX7_toDry_5 ?_
  refine gx_aload_n (q := 0) C dX7_toDry_6 rfl ?_
  refine gx_iload_n (q := 1) C dX7_toDry_7 rfl ?_
  refine gx_iconst (v := 1) C dX7_toDry_8 (by decide) ?_
  refine gx_callR C (k_X7_pot l hW _ _ (i := i) hq (by omega) (j := 1) (nLit 1) (by omega)) (isMS_in hW 0 (Nat.le_of_ble_eq_true rfl)) (isMS_0 hW) rfl (cwV 2 C.2.2.2.2.1 gX7_toDry_X7_pot rfl rfl rfl kdV_X7_pot ⟨Nat.le_of_ble_eq_true rfl, Nat.le_of_ble_eq_true rfl⟩) rfl rfl (Nat.le_of_ble_eq_true rfl) ⟨Nat.le_of_ble_eq_true rfl, Nat.le_of_ble_eq_true rfl⟩ dX7_toDry_9 ?_
  refine gx_imul C dX7_toDry_12 ?_
  refine gx_aload_n (q := 0) C dX7_toDry_13 rfl ?_
  refine gx_iload_n (q := 1) C dX7_toDry_14 rfl ?_
  refine gx_bipush (v := 6) C dX7_toDry_15 (by decide) ?_
  refine gx_callR C (k_X7_pot l hW _ _ (i := i) hq (by omega) (j := 6) (nLit 6) (by omega)) (isMS_in hW 0 (Nat.le_of_ble_eq_true rfl)) (isMS_0 hW) rfl (cwV 2 C.2.2.2.2.1 gX7_toDry_X7_pot rfl rfl rfl kdV_X7_pot ⟨Nat.le_of_ble_eq_true rfl, Nat.le_of_ble_eq_true rfl⟩) rfl rfl (Nat.le_of_ble_eq_true rfl) ⟨Nat.le_of_ble_eq_true rfl, Nat.le_of_ble_eq_true rfl⟩ dX7_toDry_17 ?_
  refine gx_isub C dX7_toDry_20 ?_
  exact gx_iretR C rfl hr dX7_toDry_21 (congrArg Value.int (rfl).symm)
theorem kdN_X7_whyNot : yX7_whyNot.cls ≠ "java/lang/invoke/MethodHandle" ∧ yX7_whyNot.cls ≠ "java/lang/invoke/VarHandle" ∧ (parseMethodDescriptor yX7_whyNot.desc).map (fun d => d.parameters.length) = some 1 := by decide +kernel
theorem kdV_X7_whyNot : yX7_whyNot.cls = RX7 ∧ yX7_whyNot.cls ≠ "java/lang/invoke/MethodHandle" ∧ yX7_whyNot.cls ≠ "java/lang/invoke/VarHandle" ∧ (parseMethodDescriptor yX7_whyNot.desc).map (fun d => d.parameters.length) = some 1 := ⟨rfl, kdN_X7_whyNot⟩
def vX7_whyNot (y : MS) (q : Int32) (i : Nat) : Int32 := (if (y.1 0 (35 + 9 * i + 4)) = 0 then (if (y.1 0 (35 + 9 * i + 3)) = 0 then (if (y.1 0 (35 + 9 * i + 3)) = 0 then (if (vX7_toDry y q i) ≤ 0 then (if (zOther (y.1 0) (y.1 0 (35 + 9 * i + 3)) (mN y)) = true then 4 else (if ((zSz (y.1 0) (mN y)) + (y.1 0 (35 + 9 * i + 1))) ≤ (y.1 0 (3)) then 0 else 5)) else 3) else (if (zOther (y.1 0) (y.1 0 (35 + 9 * i + 3)) (mN y)) = true then 4 else (if ((zSz (y.1 0) (mN y)) + (y.1 0 (35 + 9 * i + 1))) ≤ (y.1 0 (3)) then 0 else 5))) else (if (y.1 0 (35 + 9 * i + 3)) = 2 then (if (y.1 0 (35 + 9 * i + 3)) = 0 then (if (vX7_toDry y q i) ≤ 0 then (if (zOther (y.1 0) (y.1 0 (35 + 9 * i + 3)) (mN y)) = true then 4 else (if ((zSz (y.1 0) (mN y)) + (y.1 0 (35 + 9 * i + 1))) ≤ (y.1 0 (3)) then 0 else 5)) else 3) else (if (zOther (y.1 0) (y.1 0 (35 + 9 * i + 3)) (mN y)) = true then 4 else (if ((zSz (y.1 0) (mN y)) + (y.1 0 (35 + 9 * i + 1))) ≤ (y.1 0 (3)) then 0 else 5))) else 2)) else 1)
theorem in_X7_whyNot_7 : ∀ w ∈ u_ws RX7 TX7 13, w ∈ wsX7_whyNot := by decide +kernel
theorem fl_X7_whyNot_7 : Cond.fieldLink RX7 7 (TX7 0).1 (TX7 0).2.1 (TX7 0).2.2.1 ∈ wsX7_whyNot := by decide +kernel
abbrev rmX7_whyNot : Room := { frames := 2, cells := 0, slots := 0, locals := 45 }
set_option maxHeartbeats 4000000 in
set_option maxRecDepth 100000 in
theorem k_X7_whyNot (l : Launch) {k : gK} {L : List Nat} {f : Nat → va_E} {o : Nat → Nat} {y : MS} (hW : isMS k L f o y) (hM : mOK y) (q : Int32) {i : Nat} (hq : q = nI i) (hq2 : i < 20) : kR l k L f yX7_whyNot wsX7_whyNot rmX7_whyNot [.ref (o 0), .int q] (.int (vX7_whyNot y q i)) := by
  refine kR_of (cc := cX7_whyNot) (maxL := 3) (ret := (some .int)) (by decide) rfl (Nat.le_of_ble_eq_true rfl) ?_
  intro p e s m args below meth c C hr
  refine gx_lv [(0, _), (1, _)] [0, 1] rfl ?_
  refine gx_aload_n (q := 0) C dX7_whyNot_0 rfl ?_
  refine gx_iload_n (q := 1) C dX7_whyNot_1 rfl ?_
  refine gx_iconst (v := 3) C dX7_whyNot_2 (by decide) ?_
  refine gx_callR C (k_X7_pot l hW _ _ (i := i) hq (by omega) (j := 3) (nLit 3) (by omega)) (isMS_in hW 0 (Nat.le_of_ble_eq_true rfl)) (isMS_0 hW) rfl (cwV 2 C.2.2.2.2.1 gX7_whyNot_X7_pot rfl rfl rfl kdV_X7_pot ⟨Nat.le_of_ble_eq_true rfl, Nat.le_of_ble_eq_true rfl⟩) rfl rfl (Nat.le_of_ble_eq_true rfl) ⟨Nat.le_of_ble_eq_true rfl, Nat.le_of_ble_eq_true rfl⟩ dX7_whyNot_3 ?_
  refine gx_istore_n C (i := 2) [(2, _), (0, _), (1, _)] dX7_whyNot_6 rfl (by decide) rfl ?_
  refine gx_aload_n (q := 1) C dX7_whyNot_7 rfl ?_
  refine gx_iload_n (q := 2) C dX7_whyNot_8 rfl ?_
  refine gx_iconst (v := 4) C dX7_whyNot_9 (by decide) ?_
  refine gx_callR C (k_X7_pot l hW _ _ (i := i) hq (by omega) (j := 4) (nLit 4) (by omega)) (isMS_in hW 0 (Nat.le_of_ble_eq_true rfl)) (isMS_0 hW) rfl (cwV 2 C.2.2.2.2.1 gX7_whyNot_X7_pot rfl rfl rfl kdV_X7_pot ⟨Nat.le_of_ble_eq_true rfl, Nat.le_of_ble_eq_true rfl⟩) rfl rfl (Nat.le_of_ble_eq_true rfl) ⟨Nat.le_of_ble_eq_true rfl, Nat.le_of_ble_eq_true rfl⟩ dX7_whyNot_10 ?_
  refine gx_if_eq (tgt := 18) C dX7_whyNot_13 (by decide) (fun c_13 => ?_) (fun c_13 => ?_)
  · skip
    refine gx_iload_n (q := 0) C dX7_whyNot_18 rfl ?_
    refine gx_if_eq (tgt := 29) C dX7_whyNot_19 (by decide) (fun c_19 => ?_) (fun c_19 => ?_)
    · skip
      refine gx_iload_n (q := 0) C dX7_whyNot_29 rfl ?_
      refine gx_if_ne (tgt := 43) C dX7_whyNot_30 (by decide) (fun c_30 => ?_) (fun c_30 => ?_)
      · skip
        refine gx_aload_n (q := 1) C dX7_whyNot_43 rfl ?_
        refine gx_iload_n (q := 2) C dX7_whyNot_44 rfl ?_
        refine gx_callR C (k_X7_isOtherFiring l hW hM _ (j := i) hq (by omega)) (isMS_in hW 0 (Nat.le_of_ble_eq_true rfl)) (isMS_0 hW) rfl (cwV 1 C.2.2.2.2.1 gX7_whyNot_X7_isOtherFiring rfl rfl rfl kdV_X7_isOtherFiring ⟨Nat.le_of_ble_eq_true rfl, Nat.le_of_ble_eq_true rfl⟩) rfl rfl (Nat.le_of_ble_eq_true rfl) ⟨Nat.le_of_ble_eq_true rfl, Nat.le_of_ble_eq_true rfl⟩ dX7_whyNot_45 ?_
        refine gx_if_eq (tgt := 53) C dX7_whyNot_48 (by decide) (fun c_48 => ?_) (fun c_48 => ?_)
        · skip
          have h_48 := bI0.mp c_48
          refine gx_aload_n (q := 1) C dX7_whyNot_53 rfl ?_
          refine gx_callR C (k_X7_sizesInKiln l hW hM) (isMS_in hW 0 (Nat.le_of_ble_eq_true rfl)) (isMS_0 hW) rfl (cwV 0 C.2.2.2.2.1 gX7_whyNot_X7_sizesInKiln rfl rfl rfl kdV_X7_sizesInKiln ⟨Nat.le_of_ble_eq_true rfl, Nat.le_of_ble_eq_true rfl⟩) rfl rfl (Nat.le_of_ble_eq_true rfl) ⟨Nat.le_of_ble_eq_true rfl, Nat.le_of_ble_eq_true rfl⟩ dX7_whyNot_54 ?_
          refine gx_aload_n (q := 1) C dX7_whyNot_57 rfl ?_
          refine gx_iload_n (q := 2) C dX7_whyNot_58 rfl ?_
          refine gx_iconst (v := 1) C dX7_whyNot_59 (by decide) ?_
          refine gx_callR C (k_X7_pot l hW _ _ (i := i) hq (by omega) (j := 1) (nLit 1) (by omega)) (isMS_in hW 0 (Nat.le_of_ble_eq_true rfl)) (isMS_0 hW) rfl (cwV 2 C.2.2.2.2.1 gX7_whyNot_X7_pot rfl rfl rfl kdV_X7_pot ⟨Nat.le_of_ble_eq_true rfl, Nat.le_of_ble_eq_true rfl⟩) rfl rfl (Nat.le_of_ble_eq_true rfl) ⟨Nat.le_of_ble_eq_true rfl, Nat.le_of_ble_eq_true rfl⟩ dX7_whyNot_60 ?_
          refine gx_iadd C dX7_whyNot_63 ?_
          refine gx_aload_n (q := 1) C dX7_whyNot_64 rfl ?_
          refine gx_get C (i := 0) (isMS_in hW 0 (Nat.le_of_ble_eq_true rfl)) (isMS_0 hW) rfl in_X7_whyNot_7 (by decide) fl_X7_whyNot_7 rfl dX7_whyNot_65 ?_
          refine gx_iconst (v := 3) C dX7_whyNot_68 (by decide) ?_
          refine gx_ialdN C (isMS_in hW 1 (Nat.le_of_ble_eq_true rfl)) (isMS_a0 hW) (nLit 3) (by omega) (by decide) dX7_whyNot_69 ?_
          refine gx_icmp_le (tgt := 77) C dX7_whyNot_70 (by decide) (fun c_70 => ?_) (fun c_70 => ?_)
          · skip
            refine gx_iconst (v := 0) C dX7_whyNot_77 (by decide) ?_
            exact gx_iretR C rfl hr dX7_whyNot_78 (congrArg Value.int ((if_pos c_13).trans ((if_pos c_19).trans ((if_neg c_30).trans ((if_neg (bF h_48)).trans ((if_pos c_70).trans (rfl)))))).symm)
          · skip
            refine gx_iconst (v := 5) C dX7_whyNot_73 (by decide) ?_
            refine gx_goto (tgt := 78) C dX7_whyNot_74 (by decide) ?_
            exact gx_iretR C rfl hr dX7_whyNot_78 (congrArg Value.int ((if_pos c_13).trans ((if_pos c_19).trans ((if_neg c_30).trans ((if_neg (bF h_48)).trans ((if_neg c_70).trans (rfl)))))).symm)
        · skip
          have h_48 := bI1.mp c_48
          refine gx_iconst (v := 4) C dX7_whyNot_51 (by decide) ?_
          exact gx_iretR C rfl hr dX7_whyNot_52 (congrArg Value.int ((if_pos c_13).trans ((if_pos c_19).trans ((if_neg c_30).trans ((if_pos h_48).trans (rfl))))).symm)
      · skip
        refine gx_aload_n (q := 1) C dX7_whyNot_33 rfl ?_
        refine gx_iload_n (q := 2) C dX7_whyNot_34 rfl ?_
        refine gx_callR C (k_X7_toDry l hW _ (i := i) hq (by omega)) (isMS_in hW 0 (Nat.le_of_ble_eq_true rfl)) (isMS_0 hW) rfl (cwV 1 C.2.2.2.2.1 gX7_whyNot_X7_toDry rfl rfl rfl kdV_X7_toDry ⟨Nat.le_of_ble_eq_true rfl, Nat.le_of_ble_eq_true rfl⟩) rfl rfl (Nat.le_of_ble_eq_true rfl) ⟨Nat.le_of_ble_eq_true rfl, Nat.le_of_ble_eq_true rfl⟩ dX7_whyNot_35 ?_
        refine gx_if_le (tgt := 43) C dX7_whyNot_38 (by decide) (fun c_38 => ?_) (fun c_38 => ?_)
        · skip
          refine gx_aload_n (q := 1) C dX7_whyNot_43 rfl ?_
          refine gx_iload_n (q := 2) C dX7_whyNot_44 rfl ?_
          refine gx_callR C (k_X7_isOtherFiring l hW hM _ (j := i) hq (by omega)) (isMS_in hW 0 (Nat.le_of_ble_eq_true rfl)) (isMS_0 hW) rfl (cwV 1 C.2.2.2.2.1 gX7_whyNot_X7_isOtherFiring rfl rfl rfl kdV_X7_isOtherFiring ⟨Nat.le_of_ble_eq_true rfl, Nat.le_of_ble_eq_true rfl⟩) rfl rfl (Nat.le_of_ble_eq_true rfl) ⟨Nat.le_of_ble_eq_true rfl, Nat.le_of_ble_eq_true rfl⟩ dX7_whyNot_45 ?_
          refine gx_if_eq (tgt := 53) C dX7_whyNot_48 (by decide) (fun c_48 => ?_) (fun c_48 => ?_)
          · skip
            have h_48 := bI0.mp c_48
            refine gx_aload_n (q := 1) C dX7_whyNot_53 rfl ?_
            refine gx_callR C (k_X7_sizesInKiln l hW hM) (isMS_in hW 0 (Nat.le_of_ble_eq_true rfl)) (isMS_0 hW) rfl (cwV 0 C.2.2.2.2.1 gX7_whyNot_X7_sizesInKiln rfl rfl rfl kdV_X7_sizesInKiln ⟨Nat.le_of_ble_eq_true rfl, Nat.le_of_ble_eq_true rfl⟩) rfl rfl (Nat.le_of_ble_eq_true rfl) ⟨Nat.le_of_ble_eq_true rfl, Nat.le_of_ble_eq_true rfl⟩ dX7_whyNot_54 ?_
            refine gx_aload_n (q := 1) C dX7_whyNot_57 rfl ?_
            refine gx_iload_n (q := 2) C dX7_whyNot_58 rfl ?_
            refine gx_iconst (v := 1) C dX7_whyNot_59 (by decide) ?_
            refine gx_callR C (k_X7_pot l hW _ _ (i := i) hq (by omega) (j := 1) (nLit 1) (by omega)) (isMS_in hW 0 (Nat.le_of_ble_eq_true rfl)) (isMS_0 hW) rfl (cwV 2 C.2.2.2.2.1 gX7_whyNot_X7_pot rfl rfl rfl kdV_X7_pot ⟨Nat.le_of_ble_eq_true rfl, Nat.le_of_ble_eq_true rfl⟩) rfl rfl (Nat.le_of_ble_eq_true rfl) ⟨Nat.le_of_ble_eq_true rfl, Nat.le_of_ble_eq_true rfl⟩ dX7_whyNot_60 ?_
            refine gx_iadd C dX7_whyNot_63 ?_
            refine gx_aload_n (q := 1) C dX7_whyNot_64 rfl ?_
            refine gx_get C (i := 0) (isMS_in hW 0 (Nat.le_of_ble_eq_true rfl)) (isMS_0 hW) rfl in_X7_whyNot_7 (by decide) fl_X7_whyNot_7 rfl dX7_whyNot_65 ?_
            refine gx_iconst (v := 3) C dX7_whyNot_68 (by decide) ?_
            refine gx_ialdN C (isMS_in hW 1 (Nat.le_of_ble_eq_true rfl)) (isMS_a0 hW) (nLit 3) (by omega) (by decide) dX7_whyNot_69 ?_
            refine gx_icmp_le (tgt := 77) C dX7_whyNot_70 (by decide) (fun c_70 => ?_) (fun c_70 => ?_)
            · skip
              refine gx_iconst (v := 0) C dX7_whyNot_77 (by decide) ?_
              exact gx_iretR C rfl hr dX7_whyNot_78 (congrArg Value.int ((if_pos c_13).trans ((if_pos c_19).trans ((if_pos c_30).trans ((if_pos c_38).trans ((if_neg (bF h_48)).trans ((if_pos c_70).trans (rfl))))))).symm)
            · skip
              refine gx_iconst (v := 5) C dX7_whyNot_73 (by decide) ?_
              refine gx_goto (tgt := 78) C dX7_whyNot_74 (by decide) ?_
              exact gx_iretR C rfl hr dX7_whyNot_78 (congrArg Value.int ((if_pos c_13).trans ((if_pos c_19).trans ((if_pos c_30).trans ((if_pos c_38).trans ((if_neg (bF h_48)).trans ((if_neg c_70).trans (rfl))))))).symm)
          · skip
            have h_48 := bI1.mp c_48
            refine gx_iconst (v := 4) C dX7_whyNot_51 (by decide) ?_
            exact gx_iretR C rfl hr dX7_whyNot_52 (congrArg Value.int ((if_pos c_13).trans ((if_pos c_19).trans ((if_pos c_30).trans ((if_pos c_38).trans ((if_pos h_48).trans (rfl)))))).symm)
        · skip
          refine gx_iconst (v := 3) C dX7_whyNot_41 (by decide) ?_
          exact gx_iretR C rfl hr dX7_whyNot_42 (congrArg Value.int ((if_pos c_13).trans ((if_pos c_19).trans ((if_pos c_30).trans ((if_neg c_38).trans (rfl))))).symm)
    · skip
      refine gx_iload_n (q := 0) C dX7_whyNot_22 rfl ?_
      refine gx_iconst (v := 2) C dX7_whyNot_23 (by decide) ?_
      refine gx_icmp_eq (tgt := 29) C dX7_whyNot_24 (by decide) (fun c_24 => ?_) (fun c_24 => ?_)
      · skip
        refine gx_iload_n (q := 0) C dX7_whyNot_29 rfl ?_
        refine gx_if_ne (tgt := 43) C dX7_whyNot_30 (by decide) (fun c_30 => ?_) (fun c_30 => ?_)
        · skip
          refine gx_aload_n (q := 1) C dX7_whyNot_43 rfl ?_
          refine gx_iload_n (q := 2) C dX7_whyNot_44 rfl ?_
          refine gx_callR C (k_X7_isOtherFiring l hW hM _ (j := i) hq (by omega)) (isMS_in hW 0 (Nat.le_of_ble_eq_true rfl)) (isMS_0 hW) rfl (cwV 1 C.2.2.2.2.1 gX7_whyNot_X7_isOtherFiring rfl rfl rfl kdV_X7_isOtherFiring ⟨Nat.le_of_ble_eq_true rfl, Nat.le_of_ble_eq_true rfl⟩) rfl rfl (Nat.le_of_ble_eq_true rfl) ⟨Nat.le_of_ble_eq_true rfl, Nat.le_of_ble_eq_true rfl⟩ dX7_whyNot_45 ?_
          refine gx_if_eq (tgt := 53) C dX7_whyNot_48 (by decide) (fun c_48 => ?_) (fun c_48 => ?_)
          · skip
            have h_48 := bI0.mp c_48
            refine gx_aload_n (q := 1) C dX7_whyNot_53 rfl ?_
            refine gx_callR C (k_X7_sizesInKiln l hW hM) (isMS_in hW 0 (Nat.le_of_ble_eq_true rfl)) (isMS_0 hW) rfl (cwV 0 C.2.2.2.2.1 gX7_whyNot_X7_sizesInKiln rfl rfl rfl kdV_X7_sizesInKiln ⟨Nat.le_of_ble_eq_true rfl, Nat.le_of_ble_eq_true rfl⟩) rfl rfl (Nat.le_of_ble_eq_true rfl) ⟨Nat.le_of_ble_eq_true rfl, Nat.le_of_ble_eq_true rfl⟩ dX7_whyNot_54 ?_
            refine gx_aload_n (q := 1) C dX7_whyNot_57 rfl ?_
            refine gx_iload_n (q := 2) C dX7_whyNot_58 rfl ?_
            refine gx_iconst (v := 1) C dX7_whyNot_59 (by decide) ?_
            refine gx_callR C (k_X7_pot l hW _ _ (i := i) hq (by omega) (j := 1) (nLit 1) (by omega)) (isMS_in hW 0 (Nat.le_of_ble_eq_true rfl)) (isMS_0 hW) rfl (cwV 2 C.2.2.2.2.1 gX7_whyNot_X7_pot rfl rfl rfl kdV_X7_pot ⟨Nat.le_of_ble_eq_true rfl, Nat.le_of_ble_eq_true rfl⟩) rfl rfl (Nat.le_of_ble_eq_true rfl) ⟨Nat.le_of_ble_eq_true rfl, Nat.le_of_ble_eq_true rfl⟩ dX7_whyNot_60 ?_
            refine gx_iadd C dX7_whyNot_63 ?_
            refine gx_aload_n (q := 1) C dX7_whyNot_64 rfl ?_
            refine gx_get C (i := 0) (isMS_in hW 0 (Nat.le_of_ble_eq_true rfl)) (isMS_0 hW) rfl in_X7_whyNot_7 (by decide) fl_X7_whyNot_7 rfl dX7_whyNot_65 ?_
            refine gx_iconst (v := 3) C dX7_whyNot_68 (by decide) ?_
            refine gx_ialdN C (isMS_in hW 1 (Nat.le_of_ble_eq_true rfl)) (isMS_a0 hW) (nLit 3) (by omega) (by decide) dX7_whyNot_69 ?_
            refine gx_icmp_le (tgt := 77) C dX7_whyNot_70 (by decide) (fun c_70 => ?_) (fun c_70 => ?_)
            · skip
              refine gx_iconst (v := 0) C dX7_whyNot_77 (by decide) ?_
              exact gx_iretR C rfl hr dX7_whyNot_78 (congrArg Value.int ((if_pos c_13).trans ((if_neg c_19).trans ((if_pos c_24).trans ((if_neg c_30).trans ((if_neg (bF h_48)).trans ((if_pos c_70).trans (rfl))))))).symm)
            · skip
              refine gx_iconst (v := 5) C dX7_whyNot_73 (by decide) ?_
              refine gx_goto (tgt := 78) C dX7_whyNot_74 (by decide) ?_
              exact gx_iretR C rfl hr dX7_whyNot_78 (congrArg Value.int ((if_pos c_13).trans ((if_neg c_19).trans ((if_pos c_24).trans ((if_neg c_30).trans ((if_neg (bF h_48)).trans ((if_neg c_70).trans (rfl))))))).symm)
          · skip
            have h_48 := bI1.mp c_48
            refine gx_iconst (v := 4) C dX7_whyNot_51 (by decide) ?_
            exact gx_iretR C rfl hr dX7_whyNot_52 (congrArg Value.int ((if_pos c_13).trans ((if_neg c_19).trans ((if_pos c_24).trans ((if_neg c_30).trans ((if_pos h_48).trans (rfl)))))).symm)
        · skip
          refine gx_aload_n (q := 1) C dX7_whyNot_33 rfl ?_
          refine gx_iload_n (q := 2) C dX7_whyNot_34 rfl ?_
          refine gx_callR C (k_X7_toDry l hW _ (i := i) hq (by omega)) (isMS_in hW 0 (Nat.le_of_ble_eq_true rfl)) (isMS_0 hW) rfl (cwV 1 C.2.2.2.2.1 gX7_whyNot_X7_toDry rfl rfl rfl kdV_X7_toDry ⟨Nat.le_of_ble_eq_true rfl, Nat.le_of_ble_eq_true rfl⟩) rfl rfl (Nat.le_of_ble_eq_true rfl) ⟨Nat.le_of_ble_eq_true rfl, Nat.le_of_ble_eq_true rfl⟩ dX7_whyNot_35 ?_
          refine gx_if_le (tgt := 43) C dX7_whyNot_38 (by decide) (fun c_38 => ?_) (fun c_38 => ?_)
          · skip
            refine gx_aload_n (q := 1) C dX7_whyNot_43 rfl ?_
            refine gx_iload_n (q := 2) C dX7_whyNot_44 rfl ?_
            refine gx_callR C (k_X7_isOtherFiring l hW hM _ (j := i) hq (by omega)) (isMS_in hW 0 (Nat.le_of_ble_eq_true rfl)) (isMS_0 hW) rfl (cwV 1 C.2.2.2.2.1 gX7_whyNot_X7_isOtherFiring rfl rfl rfl kdV_X7_isOtherFiring ⟨Nat.le_of_ble_eq_true rfl, Nat.le_of_ble_eq_true rfl⟩) rfl rfl (Nat.le_of_ble_eq_true rfl) ⟨Nat.le_of_ble_eq_true rfl, Nat.le_of_ble_eq_true rfl⟩ dX7_whyNot_45 ?_
            refine gx_if_eq (tgt := 53) C dX7_whyNot_48 (by decide) (fun c_48 => ?_) (fun c_48 => ?_)
            · skip
              have h_48 := bI0.mp c_48
              refine gx_aload_n (q := 1) C dX7_whyNot_53 rfl ?_
              refine gx_callR C (k_X7_sizesInKiln l hW hM) (isMS_in hW 0 (Nat.le_of_ble_eq_true rfl)) (isMS_0 hW) rfl (cwV 0 C.2.2.2.2.1 gX7_whyNot_X7_sizesInKiln rfl rfl rfl kdV_X7_sizesInKiln ⟨Nat.le_of_ble_eq_true rfl, Nat.le_of_ble_eq_true rfl⟩) rfl rfl (Nat.le_of_ble_eq_true rfl) ⟨Nat.le_of_ble_eq_true rfl, Nat.le_of_ble_eq_true rfl⟩ dX7_whyNot_54 ?_
              refine gx_aload_n (q := 1) C dX7_whyNot_57 rfl ?_
              refine gx_iload_n (q := 2) C dX7_whyNot_58 rfl ?_
              refine gx_iconst (v := 1) C dX7_whyNot_59 (by decide) ?_
              refine gx_callR C (k_X7_pot l hW _ _ (i := i) hq (by omega) (j := 1) (nLit 1) (by omega)) (isMS_in hW 0 (Nat.le_of_ble_eq_true rfl)) (isMS_0 hW) rfl (cwV 2 C.2.2.2.2.1 gX7_whyNot_X7_pot rfl rfl rfl kdV_X7_pot ⟨Nat.le_of_ble_eq_true rfl, Nat.le_of_ble_eq_true rfl⟩) rfl rfl (Nat.le_of_ble_eq_true rfl) ⟨Nat.le_of_ble_eq_true rfl, Nat.le_of_ble_eq_true rfl⟩ dX7_whyNot_60 ?_
              refine gx_iadd C dX7_whyNot_63 ?_
              refine gx_aload_n (q := 1) C dX7_whyNot_64 rfl ?_
              refine gx_get C (i := 0) (isMS_in hW 0 (Nat.le_of_ble_eq_true rfl)) (isMS_0 hW) rfl in_X7_whyNot_7 (by decide) fl_X7_whyNot_7 rfl dX7_whyNot_65 ?_
              refine gx_iconst (v := 3) C dX7_whyNot_68 (by decide) ?_
              refine gx_ialdN C (isMS_in hW 1 (Nat.le_of_ble_eq_true rfl)) (isMS_a0 hW) (nLit 3) (by omega) (by decide) dX7_whyNot_69 ?_
              refine gx_icmp_le (tgt := 77) C dX7_whyNot_70 (by decide) (fun c_70 => ?_) (fun c_70 => ?_)
              · skip
                refine gx_iconst (v := 0) C dX7_whyNot_77 (by decide) ?_
                exact gx_iretR C rfl hr dX7_whyNot_78 (congrArg Value.int ((if_pos c_13).trans ((if_neg c_19).trans ((if_pos c_24).trans ((if_pos c_30).trans ((if_pos c_38).trans ((if_neg (bF h_48)).trans ((if_pos c_70).trans (rfl)))))))).symm)
              · skip
                refine gx_iconst (v := 5) C dX7_whyNot_73 (by decide) ?_
                refine gx_goto (tgt := 78) C dX7_whyNot_74 (by decide) ?_
                exact gx_iretR C rfl hr dX7_whyNot_78 (congrArg Value.int ((if_pos c_13).trans ((if_neg c_19).trans ((if_pos c_24).trans ((if_pos c_30).trans ((if_pos c_38).trans ((if_neg (bF h_48)).trans ((if_neg c_70).trans (rfl)))))))).symm)
            · skip
              have h_48 := bI1.mp c_48
              refine gx_iconst (v := 4) C dX7_whyNot_51 (by decide) ?_
              exact gx_iretR C rfl hr dX7_whyNot_52 (congrArg Value.int ((if_pos c_13).trans ((if_neg c_19).trans ((if_pos c_24).trans ((if_pos c_30).trans ((if_pos c_38).trans ((if_pos h_48).trans (rfl))))))).symm)
          · skip
            refine gx_iconst (v := 3) C dX7_whyNot_41 (by decide) ?_
            exact gx_iretR C rfl hr dX7_whyNot_42 (congrArg Value.int ((if_pos c_13).trans ((if_neg c_19).trans ((if_pos c_24).trans ((if_pos c_30).trans ((if_neg c_38).trans (rfl)))))).symm)
      · skip
        refine gx_iconst (v := 2) C dX7_whyNot_27 (by decide) ?_
        exact gx_iretR C rfl hr dX7_whyNot_28 (congrArg Value.int ((if_pos c_13).trans ((if_neg c_19).trans ((if_neg c_24).trans (rfl)))).symm)
  · skip
    refine gx_iconst (v := 1) C dX7_whyNot_16 (by decide) ?_
    exact gx_iretR C rfl hr dX7_whyNot_17 (congrArg Value.int ((if_neg c_13).trans (rfl)).symm)
theorem kdN_X7_heatOf : yX7_heatOf.cls ≠ "java/lang/invoke/MethodHandle" ∧ yX7_heatOf.cls ≠ "java/lang/invoke/VarHandle" ∧ (parseMethodDescriptor yX7_heatOf.desc).map (fun d => d.parameters.length) = some 1 := by decide +kernel
theorem kdV_X7_heatOf : yX7_heatOf.cls = RX7 ∧ yX7_heatOf.cls ≠ "java/lang/invoke/MethodHandle" ∧ yX7_heatOf.cls ≠ "java/lang/invoke/VarHandle" ∧ (parseMethodDescriptor yX7_heatOf.desc).map (fun d => d.parameters.length) = some 1 := ⟨rfl, kdN_X7_heatOf⟩
def vX7_heatOf (q : Int32) : Int32 := (100 + (5 * q))
abbrev rmX7_heatOf : Room := { frames := 0, cells := 0, slots := 0, locals := 0 }
set_option maxHeartbeats 4000000 in
set_option maxRecDepth 100000 in
theorem k_X7_heatOf (l : Launch) {k : gK} {L : List Nat} {f : Nat → va_E}  (q : Int32) : kR l k L f yX7_heatOf wsX7_heatOf rmX7_heatOf [.int q] (.int (vX7_heatOf q)) := by
  refine kR_of (cc := cX7_heatOf) (maxL := 1) (ret := (some .int)) (by decide) rfl (Nat.le_of_ble_eq_true rfl) ?_
  intro p e s m args below meth c C hr
  refine gx_lv [(0, _)] [0] rfl ?_
  refine gx_bipush (v := 100) C dX7_heatOf_0 (by decide) ?_
  refine gx_iconst (v := 5) C dX7_heatOf_2 (by decide) ?_
  refine gx_iload_n (q := 0) C dX7_heatOf_3 rfl ?_
  refine gx_imul C dX7_heatOf_4 ?_
  refine gx_iadd C dX7_heatOf_5 ?_
  exact gx_iretR C rfl hr dX7_heatOf_6 (congrArg Value.int (rfl).symm)
theorem kdN_X7_fired : yX7_fired.cls ≠ "java/lang/invoke/MethodHandle" ∧ yX7_fired.cls ≠ "java/lang/invoke/VarHandle" ∧ (parseMethodDescriptor yX7_fired.desc).map (fun d => d.parameters.length) = some 2 := by decide +kernel
theorem kdV_X7_fired : yX7_fired.cls = RX7 ∧ yX7_fired.cls ≠ "java/lang/invoke/MethodHandle" ∧ yX7_fired.cls ≠ "java/lang/invoke/VarHandle" ∧ (parseMethodDescriptor yX7_fired.desc).map (fun d => d.parameters.length) = some 2 := ⟨rfl, kdN_X7_fired⟩
def vX7_fired (y : MS) (q : Int32) (heat : Int32) (i : Nat) : Int32 := (if (heat + (y.1 0 (35 + 9 * i + 2))) ≤ (y.1 0 (4)) then (if (y.1 0 (35 + 9 * i + 3)) = 0 then (if heat < 95 then 0 else 1) else (if 0 ≤ (heat - (vX7_heatOf (y.1 0 (35 + 9 * i + 7)))) then (if 10 < (heat - (vX7_heatOf (y.1 0 (35 + 9 * i + 7)))) then 1 else 3) else 2)) else 4)
theorem in_X7_fired_7 : ∀ w ∈ u_ws RX7 TX7 13, w ∈ wsX7_fired := by decide +kernel
theorem fl_X7_fired_7 : Cond.fieldLink RX7 7 (TX7 0).1 (TX7 0).2.1 (TX7 0).2.2.1 ∈ wsX7_fired := by decide +kernel
abbrev rmX7_fired : Room := { frames := 1, cells := 0, slots := 0, locals := 22 }
set_option maxHeartbeats 4000000 in
set_option maxRecDepth 100000 in
theorem k_X7_fired (l : Launch) {k : gK} {L : List Nat} {f : Nat → va_E} {o : Nat → Nat} {y : MS} (hW : isMS k L f o y) (q : Int32) (heat : Int32) {i : Nat} (hq : q = nI i) (hq2 : i < 20) : kR l k L f yX7_fired wsX7_fired rmX7_fired [.ref (o 0), .int q, .int heat] (.int (vX7_fired y q heat i)) := by
  refine kR_of (cc := cX7_fired) (maxL := 4) (ret := (some .int)) (by decide) rfl (Nat.le_of_ble_eq_true rfl) ?_
  intro p e s m args below meth c C hr
  refine gx_lv [(0, _), (1, _), (2, _)] [0, 1, 2] rfl ?_
  refine gx_iload_n (q := 2) C dX7_fired_0 rfl ?_
  refine gx_aload_n (q := 0) C dX7_fired_1 rfl ?_
  refine gx_iload_n (q := 1) C dX7_fired_2 rfl ?_
  refine gx_iconst (v := 2) C dX7_fired_3 (by decide) ?_
  refine gx_callR C (k_X7_pot l hW _ _ (i := i) hq (by omega) (j := 2) (nLit 2) (by omega)) (isMS_in hW 0 (Nat.le_of_ble_eq_true rfl)) (isMS_0 hW) rfl (cwV 2 C.2.2.2.2.1 gX7_fired_X7_pot rfl rfl rfl kdV_X7_pot ⟨Nat.le_of_ble_eq_true rfl, Nat.le_of_ble_eq_true rfl⟩) rfl rfl (Nat.le_of_ble_eq_true rfl) ⟨Nat.le_of_ble_eq_true rfl, Nat.le_of_ble_eq_true rfl⟩ dX7_fired_4 ?_
  refine gx_iadd C dX7_fired_7 ?_
  refine gx_aload_n (q := 0) C dX7_fired_8 rfl ?_
  refine gx_get C (i := 0) (isMS_in hW 0 (Nat.le_of_ble_eq_true rfl)) (isMS_0 hW) rfl in_X7_fired_7 (by decide) fl_X7_fired_7 rfl dX7_fired_9 ?_
  refine gx_iconst (v := 4) C dX7_fired_12 (by decide) ?_
  refine gx_ialdN C (isMS_in hW 1 (Nat.le_of_ble_eq_true rfl)) (isMS_a0 hW) (nLit 4) (by omega) (by decide) dX7_fired_13 ?_
  refine gx_icmp_le (tgt := 19) C dX7_fired_14 (by decide) (fun c_14 => ?_) (fun c_14 => ?_)
  · skip
    refine gx_aload_n (q := 0) C dX7_fired_19 rfl ?_
    refine gx_iload_n (q := 1) C dX7_fired_20 rfl ?_
    refine gx_iconst (v := 3) C dX7_fired_21 (by decide) ?_
    refine gx_callR C (k_X7_pot l hW _ _ (i := i) hq (by omega) (j := 3) (nLit 3) (by omega)) (isMS_in hW 0 (Nat.le_of_ble_eq_true rfl)) (isMS_0 hW) rfl (cwV 2 C.2.2.2.2.1 gX7_fired_X7_pot rfl rfl rfl kdV_X7_pot ⟨Nat.le_of_ble_eq_true rfl, Nat.le_of_ble_eq_true rfl⟩) rfl rfl (Nat.le_of_ble_eq_true rfl) ⟨Nat.le_of_ble_eq_true rfl, Nat.le_of_ble_eq_true rfl⟩ dX7_fired_22 ?_
    refine gx_if_ne (tgt := 40) C dX7_fired_25 (by decide) (fun c_25 => ?_) (fun c_25 => ?_)
    · skip
      refine gx_iload_n (q := 2) C dX7_fired_40 rfl ?_
      refine gx_aload_n (q := 0) C dX7_fired_41 rfl ?_
      refine gx_iload_n (q := 1) C dX7_fired_42 rfl ?_
      refine gx_bipush (v := 7) C dX7_fired_43 (by decide) ?_
      refine gx_callR C (k_X7_pot l hW _ _ (i := i) hq (by omega) (j := 7) (nLit 7) (by omega)) (isMS_in hW 0 (Nat.le_of_ble_eq_true rfl)) (isMS_0 hW) rfl (cwV 2 C.2.2.2.2.1 gX7_fired_X7_pot rfl rfl rfl kdV_X7_pot ⟨Nat.le_of_ble_eq_true rfl, Nat.le_of_ble_eq_true rfl⟩) rfl rfl (Nat.le_of_ble_eq_true rfl) ⟨Nat.le_of_ble_eq_true rfl, Nat.le_of_ble_eq_true rfl⟩ dX7_fired_45 ?_
      refine gx_callRS C (k_X7_heatOf l (k := k) (L := L) _) (va_cwS 1 C.2.2.2.2.1 gX7_fired_X7_heatOf rfl rfl rfl kdN_X7_heatOf ⟨Nat.le_of_ble_eq_true rfl, Nat.le_of_ble_eq_true rfl⟩) rfl rfl (Nat.le_of_ble_eq_true rfl) ⟨Nat.le_of_ble_eq_true rfl, Nat.le_of_ble_eq_true rfl⟩ dX7_fired_48 ?_
      refine gx_isub C dX7_fired_51 ?_
      refine gx_istore_n C (i := 3) [(3, _), (0, _), (1, _), (2, _)] dX7_fired_52 rfl (by decide) rfl ?_
      refine gx_iload_n (q := 0) C dX7_fired_53 rfl ?_
      refine gx_if_ge (tgt := 61) C dX7_fired_54 (by decide) (fun c_54 => ?_) (fun c_54 => ?_)
      · skip
        refine gx_iload_n (q := 0) C dX7_fired_61 rfl ?_
        refine gx_bipush (v := 10) C dX7_fired_62 (by decide) ?_
        refine gx_icmp_gt (tgt := 71) C dX7_fired_64 (by decide) (fun c_64 => ?_) (fun c_64 => ?_)
        · skip
          refine gx_iconst (v := 1) C dX7_fired_71 (by decide) ?_
          exact gx_iretR C rfl hr dX7_fired_72 (congrArg Value.int ((if_pos c_14).trans ((if_neg c_25).trans ((if_pos c_54).trans ((if_pos c_64).trans (rfl))))).symm)
        · skip
          refine gx_iconst (v := 3) C dX7_fired_67 (by decide) ?_
          refine gx_goto (tgt := 72) C dX7_fired_68 (by decide) ?_
          exact gx_iretR C rfl hr dX7_fired_72 (congrArg Value.int ((if_pos c_14).trans ((if_neg c_25).trans ((if_pos c_54).trans ((if_neg c_64).trans (rfl))))).symm)
      · skip
        refine gx_iconst (v := 2) C dX7_fired_57 (by decide) ?_
        refine gx_goto (tgt := 72) C dX7_fired_58 (by decide) ?_
        exact gx_iretR C rfl hr dX7_fired_72 (congrArg Value.int ((if_pos c_14).trans ((if_neg c_25).trans ((if_neg c_54).trans (rfl)))).symm)
    · skip
      refine gx_iload_n (q := 2) C dX7_fired_28 rfl ?_
      refine gx_bipush (v := 95) C dX7_fired_29 (by decide) ?_
      refine gx_icmp_lt (tgt := 38) C dX7_fired_31 (by decide) (fun c_31 => ?_) (fun c_31 => ?_)
      · skip
        refine gx_iconst (v := 0) C dX7_fired_38 (by decide) ?_
        exact gx_iretR C rfl hr dX7_fired_39 (congrArg Value.int ((if_pos c_14).trans ((if_pos c_25).trans ((if_pos c_31).trans (rfl)))).symm)
      · skip
        refine gx_iconst (v := 1) C dX7_fired_34 (by decide) ?_
        refine gx_goto (tgt := 39) C dX7_fired_35 (by decide) ?_
        exact gx_iretR C rfl hr dX7_fired_39 (congrArg Value.int ((if_pos c_14).trans ((if_pos c_25).trans ((if_neg c_31).trans (rfl)))).symm)
  · skip
    refine gx_iconst (v := 4) C dX7_fired_17 (by decide) ?_
    exact gx_iretR C rfl hr dX7_fired_18 (congrArg Value.int ((if_neg c_14).trans (rfl)).symm)
theorem kdN_X7_firedTo : yX7_firedTo.cls ≠ "java/lang/invoke/MethodHandle" ∧ yX7_firedTo.cls ≠ "java/lang/invoke/VarHandle" ∧ (parseMethodDescriptor yX7_firedTo.desc).map (fun d => d.parameters.length) = some 3 := by decide +kernel
theorem kdV_X7_firedTo : yX7_firedTo.cls = RX7 ∧ yX7_firedTo.cls ≠ "java/lang/invoke/MethodHandle" ∧ yX7_firedTo.cls ≠ "java/lang/invoke/VarHandle" ∧ (parseMethodDescriptor yX7_firedTo.desc).map (fun d => d.parameters.length) = some 3 := ⟨rfl, kdN_X7_firedTo⟩
def zFTP (y : MS) (heat what : Int32) : Nat → Bool := fun i => decide (y.1 0 (35 + 9 * i + 4) = 1) && decide (vX7_fired y (nI i) heat i = what)
def zFiredTo (y : MS) (heat what : Int32) : Int32 := mk (zFTP y heat what) (mN y)
theorem in_X7_firedTo_7 : ∀ w ∈ u_ws RX7 TX7 13, w ∈ wsX7_firedTo := by decide +kernel
theorem fl_X7_firedTo_7 : Cond.fieldLink RX7 7 (TX7 0).1 (TX7 0).2.1 (TX7 0).2.2.1 ∈ wsX7_firedTo := by decide +kernel
abbrev rmX7_firedTo : Room := { frames := 2, cells := 0, slots := 0, locals := 45 }
set_option maxHeartbeats 4000000 in
set_option maxRecDepth 100000 in
theorem k_X7_firedTo (l : Launch) {k : gK} {L : List Nat} {f : Nat → va_E} {o : Nat → Nat} {y : MS} (hW : isMS k L f o y) (hM : mOK y) (heat : Int32) (what : Int32) : kR l k L f yX7_firedTo wsX7_firedTo rmX7_firedTo [.ref (o 0), .int heat, .int what, .int 1] (.int (zFiredTo y heat what)) := by
  refine kR_of (cc := cX7_firedTo) (maxL := 7) (ret := (some .int)) (by decide) rfl (Nat.le_of_ble_eq_true rfl) ?_
  intro p e s m args below meth c C hr
  refine gx_lv [(0, _), (1, _), (2, _), (3, _)] [0, 1, 2, 3] rfl ?_
  refine gx_iconst (v := 0) C dX7_firedTo_0 (by decide) ?_
  refine gx_istore C [(4, _), (0, _), (1, _), (2, _), (3, _)] dX7_firedTo_1 (by decide) rfl ?_
  refine gx_iconst (v := 0) C dX7_firedTo_3 (by decide) ?_
  refine gx_istore C [(5, _), (4, _), (0, _), (1, _), (2, _), (3, _)] dX7_firedTo_4 (by decide) rfl ?_
  refine gx_loop (σ := Nat) (fun i => f) (fun i => [(0, .ref (o 0)), (1, .int heat), (2, .int what), (3, .int 1), (4, .int (mk (zFTP y heat what) i)), (5, .int (nI i))]) (fun i => i ≤ mN y) (fun i => mN y - i) 0 [2, 3, 4, 5, 1, 0] rfl rfl ?_ ?_
  · exact Nat.zero_le _
  intro i hI ih
  try dsimp only at hI ih ⊢
  have h20 := hM.2
  refine gx_iload (q := 5) C dX7_firedTo_6 rfl ?_
  refine gx_aload_n (q := 0) C dX7_firedTo_8 rfl ?_
  refine gx_get C (i := 0) (isMS_in hW 0 (Nat.le_of_ble_eq_true rfl)) (isMS_0 hW) rfl in_X7_firedTo_7 (by decide) fl_X7_firedTo_7 rfl dX7_firedTo_9 ?_
  refine gx_bipush (v := 7) C dX7_firedTo_12 (by decide) ?_
  refine gx_ialdN C (isMS_in hW 1 (Nat.le_of_ble_eq_true rfl)) (isMS_a0 hW) (nLit 7) (by omega) (by decide) dX7_firedTo_14 ?_
  refine gx_top (nI (mN y)) hM.1 ?_
  refine gx_icmp_ge (tgt := 86) C dX7_firedTo_15 (by decide) (fun c_15 => ?_) (fun c_15 => ?_)
  · skip
    have hb := (nI_leI (by omega) (by omega)).mp c_15
    refine gx_iload (q := 4) C dX7_firedTo_86 rfl ?_
    exact gx_iretR C rfl hr dX7_firedTo_88 (congrArg Value.int (by rw [show i = mN y by omega]; rfl))
  · skip
    have hlt : i < mN y := Nat.lt_of_not_le (fun z => c_15 ((nI_leI (by omega) (by omega)).mpr z))
    refine gx_aload_n (q := 0) C dX7_firedTo_18 rfl ?_
    refine gx_iload (q := 5) C dX7_firedTo_19 rfl ?_
    refine gx_iconst (v := 4) C dX7_firedTo_21 (by decide) ?_
    refine gx_callR C (k_X7_pot l hW _ _ (i := i) rfl (by omega) (j := 4) (nLit 4) (by omega)) (isMS_in hW 0 (Nat.le_of_ble_eq_true rfl)) (isMS_0 hW) rfl (cwV 2 C.2.2.2.2.1 gX7_firedTo_X7_pot rfl rfl rfl kdV_X7_pot ⟨Nat.le_of_ble_eq_true rfl, Nat.le_of_ble_eq_true rfl⟩) rfl rfl (Nat.le_of_ble_eq_true rfl) ⟨Nat.le_of_ble_eq_true rfl, Nat.le_of_ble_eq_true rfl⟩ dX7_firedTo_22 ?_
    refine gx_iconst (v := 1) C dX7_firedTo_25 (by decide) ?_
    refine gx_icmp_ne (tgt := 59) C dX7_firedTo_26 (by decide) (fun c_26 => ?_) (fun c_26 => ?_)
    · skip
      refine gx_iconst (v := 0) C dX7_firedTo_59 (by decide) ?_
      refine gx_istore C [(6, _), (0, _), (1, _), (2, _), (3, _), (4, _), (5, _)] dX7_firedTo_60 (by decide) rfl ?_
      refine gx_iload (q := 5) C dX7_firedTo_62 rfl ?_
      refine gx_iload (q := 0) C dX7_firedTo_64 rfl ?_
      refine gx_if_eq (tgt := 76) C dX7_firedTo_66 (by decide) (fun c_66 => ?_) (fun c_66 => ?_)
      refine gx_iconst (v := 0) C dX7_firedTo_76 (by decide) ?_
      refine gx_ior C dX7_firedTo_77 ?_
      refine gx_istore C [(4, _), (6, _), (0, _), (1, _), (2, _), (3, _), (5, _)] dX7_firedTo_78 (by decide) rfl ?_
      refine gx_iinc C (q := 6) (v := nI (i + 1)) [(5, _), (4, _), (6, _), (0, _), (1, _), (2, _), (3, _)] dX7_firedTo_80 rfl (nI_inc i) (by decide) rfl ?_
      refine gx_goto (tgt := 6) C dX7_firedTo_83 (by decide) ?_
      exact gx_back [3, 4, 5, 6, 1, 0] (ih (i + 1) (by omega) (by omega)) rfl (by rw [mk_f (P := zFTP y heat what) (by simp [zFTP, c_26]), or0]; rfl)
      exact absurd (by decide) c_66
    · skip
      refine gx_aload_n (q := 0) C dX7_firedTo_29 rfl ?_
      refine gx_iload (q := 5) C dX7_firedTo_30 rfl ?_
      refine gx_iload_n (q := 1) C dX7_firedTo_32 rfl ?_
      refine gx_callR C (k_X7_fired l hW _ _ (i := i) rfl (by omega)) (isMS_in hW 0 (Nat.le_of_ble_eq_true rfl)) (isMS_0 hW) rfl (cwV 2 C.2.2.2.2.1 gX7_firedTo_X7_fired rfl rfl rfl kdV_X7_fired ⟨Nat.le_of_ble_eq_true rfl, Nat.le_of_ble_eq_true rfl⟩) rfl rfl (Nat.le_of_ble_eq_true rfl) ⟨Nat.le_of_ble_eq_true rfl, Nat.le_of_ble_eq_true rfl⟩ dX7_firedTo_33 ?_
      refine gx_iload_n (q := 2) C dX7_firedTo_36 rfl ?_
      refine gx_icmp_ne (tgt := 59) C dX7_firedTo_37 (by decide) (fun c_37 => ?_) (fun c_37 => ?_)
      · skip
        refine gx_iconst (v := 0) C dX7_firedTo_59 (by decide) ?_
        refine gx_istore C [(6, _), (0, _), (1, _), (2, _), (3, _), (4, _), (5, _)] dX7_firedTo_60 (by decide) rfl ?_
        refine gx_iload (q := 5) C dX7_firedTo_62 rfl ?_
        refine gx_iload (q := 0) C dX7_firedTo_64 rfl ?_
        refine gx_if_eq (tgt := 76) C dX7_firedTo_66 (by decide) (fun c_66 => ?_) (fun c_66 => ?_)
        refine gx_iconst (v := 0) C dX7_firedTo_76 (by decide) ?_
        refine gx_ior C dX7_firedTo_77 ?_
        refine gx_istore C [(4, _), (6, _), (0, _), (1, _), (2, _), (3, _), (5, _)] dX7_firedTo_78 (by decide) rfl ?_
        refine gx_iinc C (q := 6) (v := nI (i + 1)) [(5, _), (4, _), (6, _), (0, _), (1, _), (2, _), (3, _)] dX7_firedTo_80 rfl (nI_inc i) (by decide) rfl ?_
        refine gx_goto (tgt := 6) C dX7_firedTo_83 (by decide) ?_
        exact gx_back [3, 4, 5, 6, 1, 0] (ih (i + 1) (by omega) (by omega)) rfl (by rw [mk_f (P := zFTP y heat what) (by simp [zFTP, c_26, c_37]), or0]; rfl)
        exact absurd (by decide) c_66
      · skip
        refine gx_iload_n (q := 3) C dX7_firedTo_40 rfl ?_
        refine gx_if_ne (tgt := 55) C dX7_firedTo_41 (by decide) (fun c_41 => ?_) (fun c_41 => ?_)
        refine gx_iconst (v := 1) C dX7_firedTo_55 (by decide) ?_
        refine gx_goto (tgt := 60) C dX7_firedTo_56 (by decide) ?_
        refine gx_istore C [(6, _), (0, _), (1, _), (2, _), (3, _), (4, _), (5, _)] dX7_firedTo_60 (by decide) rfl ?_
        refine gx_iload (q := 5) C dX7_firedTo_62 rfl ?_
        refine gx_iload (q := 0) C dX7_firedTo_64 rfl ?_
        refine gx_if_eq (tgt := 76) C dX7_firedTo_66 (by decide) (fun c_66 => ?_) (fun c_66 => ?_)
        exact absurd c_66 (by decide)
        refine gx_iconst (v := 1) C dX7_firedTo_69 (by decide) ?_
        refine gx_iload (q := 6) C dX7_firedTo_70 rfl ?_
        refine gx_ishl C dX7_firedTo_72 ?_
        refine gx_goto (tgt := 77) C dX7_firedTo_73 (by decide) ?_
        refine gx_ior C dX7_firedTo_77 ?_
        refine gx_istore C [(4, _), (6, _), (0, _), (1, _), (2, _), (3, _), (5, _)] dX7_firedTo_78 (by decide) rfl ?_
        refine gx_iinc C (q := 6) (v := nI (i + 1)) [(5, _), (4, _), (6, _), (0, _), (1, _), (2, _), (3, _)] dX7_firedTo_80 rfl (nI_inc i) (by decide) rfl ?_
        refine gx_goto (tgt := 6) C dX7_firedTo_83 (by decide) ?_
        exact gx_back [3, 4, 5, 6, 1, 0] (ih (i + 1) (by omega) (by omega)) rfl (by rw [mk_t (P := zFTP y heat what) (by simp [zFTP, c_26, c_37])]; rfl)
        exact absurd c_41 (by decide)
theorem kdN_X7_least : yX7_least.cls ≠ "java/lang/invoke/MethodHandle" ∧ yX7_least.cls ≠ "java/lang/invoke/VarHandle" ∧ (parseMethodDescriptor yX7_least.desc).map (fun d => d.parameters.length) = some 1 := by decide +kernel
theorem kdV_X7_least : yX7_least.cls = RX7 ∧ yX7_least.cls ≠ "java/lang/invoke/MethodHandle" ∧ yX7_least.cls ≠ "java/lang/invoke/VarHandle" ∧ (parseMethodDescriptor yX7_least.desc).map (fun d => d.parameters.length) = some 1 := ⟨rfl, kdN_X7_least⟩
def vX7_least (st : Int32) : Int32 := (if st = 0 then 1 else (if st = 1 then 3 else (if st = 2 then 100 else 0)))
abbrev rmX7_least : Room := { frames := 0, cells := 0, slots := 0, locals := 0 }
set_option maxHeartbeats 4000000 in
set_option maxRecDepth 100000 in
theorem k_X7_least (l : Launch) {k : gK} {L : List Nat} {f : Nat → va_E}  (st : Int32) : kR l k L f yX7_least wsX7_least rmX7_least [.int st] (.int (vX7_least st)) := by
  refine kR_of (cc := cX7_least) (maxL := 1) (ret := (some .int)) (by decide) rfl (Nat.le_of_ble_eq_true rfl) ?_
  intro p e s m args below meth c C hr
  refine gx_lv [(0, _)] [0] rfl ?_
  refine gx_iload_n (q := 0) C dX7_least_0 rfl ?_
  refine gx_if_ne (tgt := 8) C dX7_least_1 (by decide) (fun c_1 => ?_) (fun c_1 => ?_)
  · skip
    refine gx_iload_n (q := 0) C dX7_least_8 rfl ?_
    refine gx_iconst (v := 1) C dX7_least_9 (by decide) ?_
    refine gx_icmp_ne (tgt := 17) C dX7_least_10 (by decide) (fun c_10 => ?_) (fun c_10 => ?_)
    · skip
      refine gx_iload_n (q := 0) C dX7_least_17 rfl ?_
      refine gx_iconst (v := 2) C dX7_least_18 (by decide) ?_
      refine gx_icmp_ne (tgt := 27) C dX7_least_19 (by decide) (fun c_19 => ?_) (fun c_19 => ?_)
      · skip
        refine gx_iconst (v := 0) C dX7_least_27 (by decide) ?_
        exact gx_iretR C rfl hr dX7_least_28 (congrArg Value.int ((if_neg c_1).trans ((if_neg c_10).trans ((if_neg c_19).trans (rfl)))).symm)
      · skip
        refine gx_bipush (v := 100) C dX7_least_22 (by decide) ?_
        refine gx_goto (tgt := 28) C dX7_least_24 (by decide) ?_
        exact gx_iretR C rfl hr dX7_least_28 (congrArg Value.int ((if_neg c_1).trans ((if_neg c_10).trans ((if_pos c_19).trans (rfl)))).symm)
    · skip
      refine gx_iconst (v := 3) C dX7_least_13 (by decide) ?_
      refine gx_goto (tgt := 28) C dX7_least_14 (by decide) ?_
      exact gx_iretR C rfl hr dX7_least_28 (congrArg Value.int ((if_neg c_1).trans ((if_pos c_10).trans (rfl))).symm)
  · skip
    refine gx_iconst (v := 1) C dX7_least_4 (by decide) ?_
    refine gx_goto (tgt := 28) C dX7_least_5 (by decide) ?_
    exact gx_iretR C rfl hr dX7_least_28 (congrArg Value.int ((if_pos c_1).trans (rfl)).symm)
theorem kdN_X7_most : yX7_most.cls ≠ "java/lang/invoke/MethodHandle" ∧ yX7_most.cls ≠ "java/lang/invoke/VarHandle" ∧ (parseMethodDescriptor yX7_most.desc).map (fun d => d.parameters.length) = some 1 := by decide +kernel
theorem kdV_X7_most : yX7_most.cls = RX7 ∧ yX7_most.cls ≠ "java/lang/invoke/MethodHandle" ∧ yX7_most.cls ≠ "java/lang/invoke/VarHandle" ∧ (parseMethodDescriptor yX7_most.desc).map (fun d => d.parameters.length) = some 1 := ⟨rfl, kdN_X7_most⟩
def vX7_most (st : Int32) : Int32 := (if st = 0 then 9 else (if st = 1 then 24 else (if st = 2 then 140 else 20)))
abbrev rmX7_most : Room := { frames := 0, cells := 0, slots := 0, locals := 0 }
set_option maxHeartbeats 4000000 in
set_option maxRecDepth 100000 in
theorem k_X7_most (l : Launch) {k : gK} {L : List Nat} {f : Nat → va_E}  (st : Int32) : kR l k L f yX7_most wsX7_most rmX7_most [.int st] (.int (vX7_most st)) := by
  refine kR_of (cc := cX7_most) (maxL := 1) (ret := (some .int)) (by decide) rfl (Nat.le_of_ble_eq_true rfl) ?_
  intro p e s m args below meth c C hr
  refine gx_lv [(0, _)] [0] rfl ?_
  refine gx_iload_n (q := 0) C dX7_most_0 rfl ?_
  refine gx_if_ne (tgt := 9) C dX7_most_1 (by decide) (fun c_1 => ?_) (fun c_1 => ?_)
  · skip
    refine gx_iload_n (q := 0) C dX7_most_9 rfl ?_
    refine gx_iconst (v := 1) C dX7_most_10 (by decide) ?_
    refine gx_icmp_ne (tgt := 19) C dX7_most_11 (by decide) (fun c_11 => ?_) (fun c_11 => ?_)
    · skip
      refine gx_iload_n (q := 0) C dX7_most_19 rfl ?_
      refine gx_iconst (v := 2) C dX7_most_20 (by decide) ?_
      refine gx_icmp_ne (tgt := 30) C dX7_most_21 (by decide) (fun c_21 => ?_) (fun c_21 => ?_)
      · skip
        refine gx_bipush (v := 20) C dX7_most_30 (by decide) ?_
        exact gx_iretR C rfl hr dX7_most_32 (congrArg Value.int ((if_neg c_1).trans ((if_neg c_11).trans ((if_neg c_21).trans (rfl)))).symm)
      · skip
        refine gx_sipush (v := 140) C dX7_most_24 (by decide) ?_
        refine gx_goto (tgt := 32) C dX7_most_27 (by decide) ?_
        exact gx_iretR C rfl hr dX7_most_32 (congrArg Value.int ((if_neg c_1).trans ((if_neg c_11).trans ((if_pos c_21).trans (rfl)))).symm)
    · skip
      refine gx_bipush (v := 24) C dX7_most_14 (by decide) ?_
      refine gx_goto (tgt := 32) C dX7_most_16 (by decide) ?_
      exact gx_iretR C rfl hr dX7_most_32 (congrArg Value.int ((if_neg c_1).trans ((if_pos c_11).trans (rfl))).symm)
  · skip
    refine gx_bipush (v := 9) C dX7_most_4 (by decide) ?_
    refine gx_goto (tgt := 32) C dX7_most_6 (by decide) ?_
    exact gx_iretR C rfl hr dX7_most_32 (congrArg Value.int ((if_pos c_1).trans (rfl)).symm)
