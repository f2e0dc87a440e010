theorem kdN_X2_nextCode : yX2_nextCode.cls ≠ "java/lang/invoke/MethodHandle" ∧ yX2_nextCode.cls ≠ "java/lang/invoke/VarHandle" ∧ (parseMethodDescriptor yX2_nextCode.desc).map (fun d => d.parameters.length) = some 0 := by decide +kernel
theorem kdV_X2_nextCode : yX2_nextCode.cls = RX2 ∧ yX2_nextCode.cls ≠ "java/lang/invoke/MethodHandle" ∧ yX2_nextCode.cls ≠ "java/lang/invoke/VarHandle" ∧ (parseMethodDescriptor yX2_nextCode.desc).map (fun d => d.parameters.length) = some 0 := ⟨rfl, kdN_X2_nextCode⟩
theorem in_X2_nextCode_2 : ∀ w ∈ u_ws RX2 TX2 7, w ∈ wsX2_nextCode := by decide +kernel
theorem fl_X2_nextCode_52 : Cond.fieldLink RX2 52 (TX2 2).1 (TX2 2).2.1 (TX2 2).2.2.1 ∈ wsX2_nextCode := by decide +kernel
theorem fl_X2_nextCode_15 : Cond.fieldLink RX2 15 (TX2 1).1 (TX2 1).2.1 (TX2 1).2.2.1 ∈ wsX2_nextCode := by decide +kernel
theorem fl_X2_nextCode_9 : Cond.fieldLink RX2 9 (TX2 0).1 (TX2 0).2.1 (TX2 0).2.2.1 ∈ wsX2_nextCode := by decide +kernel
abbrev rmX2_nextCode : Room := { frames := 0, cells := 0, slots := 0, locals := 0 }
set_option maxHeartbeats 4000000 in
set_option maxRecDepth 100000 in
theorem k_X2_nextCode (l : Launch) {k : gK} {L : List Nat} {f : Nat → va_E} {d : Nat → Nat} {q : DS} {n p0 : Nat} {kd a b c0 : Int32} (hW : isDS k L f d (dC q p0 kd a b c0)) (hn : q.2 0 = nI n) (hn2 : n ≤ 80) (hp : p0 ≤ 100)  : kR l k L f yX2_nextCode wsX2_nextCode rmX2_nextCode [.ref (d 0)] (.int (sg (q.1 0) n p0)) := by
  refine kR_of (cc := cX2_nextCode) (maxL := 1) (ret := (some .int)) (by decide) rfl (Nat.le_of_ble_eq_true rfl) ?_
  intro p e s m args below meth c C hr
  refine gx_lv [(0, _)] [0] rfl ?_
  refine gx_aload_n (q := 0) C dX2_nextCode_0 rfl ?_
  refine gx_get C (i := 2) (isDS_in hW 0 (Nat.le_of_ble_eq_true rfl)) (isDS_0 hW) rfl in_X2_nextCode_2 (by decide) fl_X2_nextCode_52 rfl dX2_nextCode_1 ?_
  refine gx_top (nI p0) rfl ?_
  refine gx_if_lt (tgt := 42) C dX2_nextCode_4 (by decide) (fun c_4 => ?_) (fun c_4 => ?_)
  · skip
    exact absurd c_4 (nI_pos (by omega))
  · skip
    refine gx_aload_n (q := 0) C dX2_nextCode_7 rfl ?_
    refine gx_get C (i := 2) (isDS_in hW 0 (Nat.le_of_ble_eq_true rfl)) (isDS_0 hW) rfl in_X2_nextCode_2 (by decide) fl_X2_nextCode_52 rfl dX2_nextCode_8 ?_
    refine gx_top (nI p0) rfl ?_
    refine gx_aload_n (q := 0) C dX2_nextCode_11 rfl ?_
    refine gx_get C (i := 1) (isDS_in hW 0 (Nat.le_of_ble_eq_true rfl)) (isDS_0 hW) rfl in_X2_nextCode_2 (by decide) fl_X2_nextCode_15 rfl dX2_nextCode_12 ?_
    refine gx_top (nI n) hn ?_
    refine gx_icmp_ge (tgt := 42) C dX2_nextCode_15 (by decide) (fun c_15 => ?_) (fun c_15 => ?_)
    · skip
      have hb := (nI_leI (by omega) (by omega)).mp c_15
      refine gx_iconst (v := 0) C dX2_nextCode_42 (by decide) ?_
      exact gx_iretR C rfl hr dX2_nextCode_43 (congrArg Value.int (by exact (if_pos (by omega)).symm))
    · skip
      have hlt : p0 < n := Nat.lt_of_not_le (fun z => c_15 ((nI_leI (by omega) (by omega)).mpr z))
      refine gx_aload_n (q := 0) C dX2_nextCode_18 rfl ?_
      refine gx_get C (i := 2) (isDS_in hW 0 (Nat.le_of_ble_eq_true rfl)) (isDS_0 hW) rfl in_X2_nextCode_2 (by decide) fl_X2_nextCode_52 rfl dX2_nextCode_19 ?_
      refine gx_top (nI p0) rfl ?_
      refine gx_aload_n (q := 0) C dX2_nextCode_22 rfl ?_
      refine gx_get C (i := 0) (isDS_in hW 0 (Nat.le_of_ble_eq_true rfl)) (isDS_0 hW) rfl in_X2_nextCode_2 (by decide) fl_X2_nextCode_9 rfl dX2_nextCode_23 ?_
      refine gx_alenI C (isDS_in hW 1 (Nat.le_of_ble_eq_true rfl)) (isDS_a0 hW) dX2_nextCode_26 ?_
      refine gx_icmp_ge (tgt := 42) C dX2_nextCode_27 (by decide) (fun c_27 => ?_) (fun c_27 => ?_)
      · skip
        exact absurd ((nI_leI (a := 80) (b := p0) (by decide) (by omega)).mp c_27) (by omega)
      · skip
        refine gx_aload_n (q := 0) C dX2_nextCode_30 rfl ?_
        refine gx_get C (i := 0) (isDS_in hW 0 (Nat.le_of_ble_eq_true rfl)) (isDS_0 hW) rfl in_X2_nextCode_2 (by decide) fl_X2_nextCode_9 rfl dX2_nextCode_31 ?_
        refine gx_aload_n (q := 0) C dX2_nextCode_34 rfl ?_
        refine gx_get C (i := 2) (isDS_in hW 0 (Nat.le_of_ble_eq_true rfl)) (isDS_0 hW) rfl in_X2_nextCode_2 (by decide) fl_X2_nextCode_52 rfl dX2_nextCode_35 ?_
        refine gx_top (nI p0) rfl ?_
        refine gx_ialdN C (isDS_in hW 1 (Nat.le_of_ble_eq_true rfl)) (isDS_a0 hW) rfl (by omega) (by decide) dX2_nextCode_38 ?_
        refine gx_goto (tgt := 43) C dX2_nextCode_39 (by decide) ?_
        exact gx_iretR C rfl hr dX2_nextCode_43 (congrArg Value.int (by exact (if_neg (by omega)).symm))
theorem kdN_X2_skip : yX2_skip.cls ≠ "java/lang/invoke/MethodHandle" ∧ yX2_skip.cls ≠ "java/lang/invoke/VarHandle" ∧ (parseMethodDescriptor yX2_skip.desc).map (fun d => d.parameters.length) = some 1 := by decide +kernel
theorem kdV_X2_skip : yX2_skip.cls = RX2 ∧ yX2_skip.cls ≠ "java/lang/invoke/MethodHandle" ∧ yX2_skip.cls ≠ "java/lang/invoke/VarHandle" ∧ (parseMethodDescriptor yX2_skip.desc).map (fun d => d.parameters.length) = some 1 := ⟨rfl, kdN_X2_skip⟩
theorem in_X2_skip_2 : ∀ w ∈ u_ws RX2 TX2 7, w ∈ wsX2_skip := by decide +kernel
theorem fl_X2_skip_52 : Cond.fieldLink RX2 52 (TX2 2).1 (TX2 2).2.1 (TX2 2).2.2.1 ∈ wsX2_skip := by decide +kernel
abbrev rmX2_skip : Room := { frames := 1, cells := 0, slots := 0, locals := 20 }
set_option maxHeartbeats 4000000 in
set_option maxRecDepth 100000 in
theorem k_X2_skip (l : Launch) {k : gK} {L : List Nat} {f : Nat → va_E} (hL : L.Nodup) {d : Nat → Nat} {q : DS} {n p0 : Nat} {kd a b c0 : Int32} (hW : isDS k L f d (dC q p0 kd a b c0)) (hn : q.2 0 = nI n) (hn2 : n ≤ 80) (hp : p0 ≤ 100) (ch : Int32) : kM l k L f yX2_skip wsX2_skip rmX2_skip [.ref (d 0), .int ch] (fun v2 f2 => (sg (q.1 0) n p0 = ch ∧ v2 = (some (.int 1)) ∧ isDS k L f2 d (dC q (p0 + 1) kd a b c0) ∧ gFr d 2 f f2) ∨ (¬ sg (q.1 0) n p0 = ch ∧ v2 = (some (.int 0)) ∧ isDS k L f2 d (dC q p0 kd a b c0) ∧ gFr d 2 f f2)) := by
  refine kM_of (cc := cX2_skip) (maxL := 2) (ret := (some .boolean)) (by decide) rfl (Nat.le_of_ble_eq_true rfl) ?_
  intro p e s m args below meth c C hr
  have hD : gD (fun q => q ∈ L) L := ⟨hL, fun _ h => h⟩
  refine gx_lv [(0, _), (1, _)] [0, 1] rfl ?_
  refine gx_aload_n (q := 0) C dX2_skip_0 rfl ?_
  refine gx_callR C (k_X2_nextCode l hW hn hn2 (by omega)) (isDS_in hW 0 (Nat.le_of_ble_eq_true rfl)) (isDS_0 hW) rfl (cwV 0 C.2.2.2.2.1 gX2_skip_X2_nextCode rfl rfl rfl kdV_X2_nextCode ⟨Nat.le_of_ble_eq_true rfl, Nat.le_of_ble_eq_true rfl⟩) rfl rfl (Nat.le_of_ble_eq_true rfl) ⟨Nat.le_of_ble_eq_true rfl, Nat.le_of_ble_eq_true rfl⟩ dX2_skip_1 ?_
  refine gx_iload_n (q := 1) C dX2_skip_4 rfl ?_
  refine gx_icmp_eq (tgt := 10) C dX2_skip_5 (by decide) (fun c_5 => ?_) (fun c_5 => ?_)
  · skip
    refine gx_aload_n (q := 0) C dX2_skip_10 rfl ?_
    refine gx_dup C rfl dX2_skip_11 ?_
    refine gx_get C (i := 2) (isDS_in hW 0 (Nat.le_of_ble_eq_true rfl)) (isDS_0 hW) rfl in_X2_skip_2 (by decide) fl_X2_skip_52 rfl dX2_skip_12 ?_
    refine gx_top (nI p0) rfl ?_
    refine gx_iconst (v := 1) C dX2_skip_15 (by decide) ?_
    refine gx_iadd C dX2_skip_16 ?_
    refine gx_put C hD (i := 2) (ty := .int) tyX2_ok nmX2 (isDS_in hW 0 (Nat.le_of_ble_eq_true rfl)) (isDS_0 hW) rfl in_X2_skip_2 (by decide) fl_X2_skip_52 rfl (by decide +kernel) rfl rfl (Nat.le_of_ble_eq_true rfl) rfl dX2_skip_17 ?_
    refine gx_Ds1 hW (gFr_rf (f := f)) (fun f_1 hW_1 hF_1 => ?_)
    have hW_1 := isDS_same hW_1 (dC_1 q p0 kd a b c0 _ (nAdd rfl (nLit 1)))
    refine gx_iconst (v := 1) C dX2_skip_20 (by decide) ?_
    exact gx_zretM C hr (Or.inr rfl) dX2_skip_21 (Or.inl ⟨c_5, rfl, hW_1, hF_1⟩)
  · skip
    refine gx_iconst (v := 0) C dX2_skip_8 (by decide) ?_
    exact gx_zretM C hr (Or.inl rfl) dX2_skip_9 (Or.inr (⟨c_5, rfl, hW, (gFr_rf (f := f))⟩))
theorem kdN_X2_readDigit : yX2_readDigit.cls ≠ "java/lang/invoke/MethodHandle" ∧ yX2_readDigit.cls ≠ "java/lang/invoke/VarHandle" ∧ (parseMethodDescriptor yX2_readDigit.desc).map (fun d => d.parameters.length) = some 0 := by decide +kernel
theorem kdV_X2_readDigit : yX2_readDigit.cls = RX2 ∧ yX2_readDigit.cls ≠ "java/lang/invoke/MethodHandle" ∧ yX2_readDigit.cls ≠ "java/lang/invoke/VarHandle" ∧ (parseMethodDescriptor yX2_readDigit.desc).map (fun d => d.parameters.length) = some 0 := ⟨rfl, kdN_X2_readDigit⟩
theorem wd_X2_readDigit_ini_RX6 : Cond.initialized RX6 ∈ wsX2_readDigit := by decide +kernel
theorem wd_X2_readDigit_st_X6_isWithin : Cond.static yX6_isWithin ∈ wsX2_readDigit := by decide +kernel
theorem in_X2_readDigit_2 : ∀ w ∈ u_ws RX2 TX2 7, w ∈ wsX2_readDigit := by decide +kernel
theorem fl_X2_readDigit_52 : Cond.fieldLink RX2 52 (TX2 2).1 (TX2 2).2.1 (TX2 2).2.2.1 ∈ wsX2_readDigit := by decide +kernel
abbrev rmX2_readDigit : Room := { frames := 1, cells := 0, slots := 0, locals := 22 }
set_option maxHeartbeats 4000000 in
set_option maxRecDepth 100000 in
theorem k_X2_readDigit (l : Launch) {k : gK} {L : List Nat} {f : Nat → va_E} (hL : L.Nodup) {d : Nat → Nat} {q : DS} {n p0 : Nat} {kd a b c0 : Int32} (hW : isDS k L f d (dC q p0 kd a b c0)) (hn : q.2 0 = nI n) (hn2 : n ≤ 80) (hp : p0 ≤ 100)  : kM l k L f yX2_readDigit wsX2_readDigit rmX2_readDigit [.ref (d 0)] (fun v2 f2 => (isD (sg (q.1 0) n p0) = true ∧ v2 = (some (.int (sg (q.1 0) n p0 - 48))) ∧ isDS k L f2 d (dC q (p0 + 1) kd a b c0) ∧ gFr d 2 f f2) ∨ (isD (sg (q.1 0) n p0) = false ∧ v2 = (some (.int (-1))) ∧ isDS k L f2 d (dC q p0 kd a b c0) ∧ gFr d 2 f f2)) := by
  refine kM_of (cc := cX2_readDigit) (maxL := 2) (ret := (some .int)) (by decide) rfl (Nat.le_of_ble_eq_true rfl) ?_
  intro p e s m args below meth c C hr
  have hD : gD (fun q => q ∈ L) L := ⟨hL, fun _ h => h⟩
  refine gx_lv [(0, _)] [0] rfl ?_
  refine gx_aload_n (q := 0) C dX2_readDigit_0 rfl ?_
  refine gx_callR C (k_X2_nextCode l hW hn hn2 (by omega)) (isDS_in hW 0 (Nat.le_of_ble_eq_true rfl)) (isDS_0 hW) rfl (cwV 0 C.2.2.2.2.1 gX2_readDigit_X2_nextCode rfl rfl rfl kdV_X2_nextCode ⟨Nat.le_of_ble_eq_true rfl, Nat.le_of_ble_eq_true rfl⟩) rfl rfl (Nat.le_of_ble_eq_true rfl) ⟨Nat.le_of_ble_eq_true rfl, Nat.le_of_ble_eq_true rfl⟩ dX2_readDigit_1 ?_
  refine gx_istore_n C (i := 1) [(1, _), (0, _)] dX2_readDigit_4 rfl (by decide) rfl ?_
  refine gx_iload_n (q := 0) C dX2_readDigit_5 rfl ?_
  refine gx_bipush (v := 48) C dX2_readDigit_6 (by decide) ?_
  refine gx_bipush (v := 57) C dX2_readDigit_8 (by decide) ?_
  refine gx_callRN C (k_X6_isWithin l (k := k) (L := L) _ _ _) ⟨va_cnB 3 C.2.2.2.2.1 gX2_readDigit_X6_isWithin_n41 rfl rfl rfl (C.2.2.2.2.2.1.2.2 (RX2, 41, yX6_isWithin) (by decide +kernel)) (C.2.2.2.2.1 _ wd_X2_readDigit_ini_RX6) kdN_X6_isWithin ⟨Nat.le_of_ble_eq_true rfl, Nat.le_of_ble_eq_true rfl⟩, C.2.2.2.2.1 _ wd_X2_readDigit_st_X6_isWithin, trivial⟩ rfl rfl (Nat.le_of_ble_eq_true rfl) ⟨Nat.le_of_ble_eq_true rfl, Nat.le_of_ble_eq_true rfl⟩ dX2_readDigit_10 ?_
  refine gx_if_ne (tgt := 18) C dX2_readDigit_13 (by decide) (fun c_13 => ?_) (fun c_13 => ?_)
  · skip
    have h_13 := bI1.mp c_13
    refine gx_aload_n (q := 1) C dX2_readDigit_18 rfl ?_
    refine gx_dup C rfl dX2_readDigit_19 ?_
    refine gx_get C (i := 2) (isDS_in hW 0 (Nat.le_of_ble_eq_true rfl)) (isDS_0 hW) rfl in_X2_readDigit_2 (by decide) fl_X2_readDigit_52 rfl dX2_readDigit_20 ?_
    refine gx_top (nI p0) rfl ?_
    refine gx_iconst (v := 1) C dX2_readDigit_23 (by decide) ?_
    refine gx_iadd C dX2_readDigit_24 ?_
    refine gx_put C hD (i := 2) (ty := .int) tyX2_ok nmX2 (isDS_in hW 0 (Nat.le_of_ble_eq_true rfl)) (isDS_0 hW) rfl in_X2_readDigit_2 (by decide) fl_X2_readDigit_52 rfl (by decide +kernel) rfl rfl (Nat.le_of_ble_eq_true rfl) rfl dX2_readDigit_25 ?_
    refine gx_Ds1 hW (gFr_rf (f := f)) (fun f_1 hW_1 hF_1 => ?_)
    have hW_1 := isDS_same hW_1 (dC_1 q p0 kd a b c0 _ (nAdd rfl (nLit 1)))
    refine gx_iload_n (q := 0) C dX2_readDigit_28 rfl ?_
    refine gx_bipush (v := 48) C dX2_readDigit_29 (by decide) ?_
    refine gx_isub C dX2_readDigit_31 ?_
    exact gx_iretM C hr dX2_readDigit_32 (Or.inl ⟨h_13, rfl, hW_1, hF_1⟩)
  · skip
    have h_13 := bI0.mp c_13
    refine gx_iconst (v := (-1)) C dX2_readDigit_16 (by decide) ?_
    exact gx_iretM C hr dX2_readDigit_17 (Or.inr (⟨h_13, rfl, hW, (gFr_rf (f := f))⟩))
theorem kdN_X2_readNumber : yX2_readNumber.cls ≠ "java/lang/invoke/MethodHandle" ∧ yX2_readNumber.cls ≠ "java/lang/invoke/VarHandle" ∧ (parseMethodDescriptor yX2_readNumber.desc).map (fun d => d.parameters.length) = some 0 := by decide +kernel
theorem kdV_X2_readNumber : yX2_readNumber.cls = RX2 ∧ yX2_readNumber.cls ≠ "java/lang/invoke/MethodHandle" ∧ yX2_readNumber.cls ≠ "java/lang/invoke/VarHandle" ∧ (parseMethodDescriptor yX2_readNumber.desc).map (fun d => d.parameters.length) = some 0 := ⟨rfl, kdN_X2_readNumber⟩
theorem isD_ge {c : Int32} (h : isD c = true) : 0 ≤ c - 48 := by
  obtain ⟨d, h1, h2, -⟩ := isD_v h
  rw [h2]
  exact nI_pos' (by omega)
abbrev rmX2_readNumber : Room := { frames := 2, cells := 0, slots := 0, locals := 43 }
set_option maxHeartbeats 4000000 in
set_option maxRecDepth 100000 in
theorem k_X2_readNumber (l : Launch) {k : gK} {L : List Nat} {f : Nat → va_E} (hL : L.Nodup) {d : Nat → Nat} {q : DS} {n p0 : Nat} {kd a b c0 : Int32} (hW : isDS k L f d (dC q p0 kd a b c0)) (hn : q.2 0 = nI n) (hn2 : n ≤ 80) (hp : p0 ≤ 100)  : kM l k L f yX2_readNumber wsX2_readNumber rmX2_readNumber [.ref (d 0)] (fun v2 f2 => (isD (sg (q.1 0) n p0) = true ∧ v2 = (some (.int (numV (q.1 0) n p0))) ∧ isDS k L f2 d (dC q (numE (q.1 0) n p0) kd a b c0) ∧ gFr d 2 f f2) ∨ (isD (sg (q.1 0) n p0) = false ∧ v2 = (some (.int (-1))) ∧ isDS k L f2 d (dC q p0 kd a b c0) ∧ gFr d 2 f f2)) := by
  refine kM_of (cc := cX2_readNumber) (maxL := 4) (ret := (some .int)) (by decide) rfl (Nat.le_of_ble_eq_true rfl) ?_
  intro p e s m args below meth c C hr
  have hD : gD (fun q => q ∈ L) L := ⟨hL, fun _ h => h⟩
  refine gx_lv [(0, _)] [0] rfl ?_
  refine gx_aload_n (q := 0) C dX2_readNumber_0 rfl ?_
  refine gx_callM C hD (k_X2_readDigit l hL hW hn hn2 (by omega)) (isDS_in hW 0 (Nat.le_of_ble_eq_true rfl)) (isDS_0 hW) rfl (cwV 0 C.2.2.2.2.1 gX2_readNumber_X2_readDigit rfl rfl rfl kdV_X2_readDigit ⟨Nat.le_of_ble_eq_true rfl, Nat.le_of_ble_eq_true rfl⟩) rfl rfl (Nat.le_of_ble_eq_true rfl) ⟨Nat.le_of_ble_eq_true rfl, Nat.le_of_ble_eq_true rfl⟩ dX2_readNumber_1 (fun v_1 f_1 hp_1 => ?_)
  rcases hp_1 with ⟨hc_1_0, rfl, hW_1, hG_1⟩ | ⟨hc_1_0, rfl, hW_1, hG_1⟩
  · skip
    have hF_1 := gFr_tr (gFr_rf (f := f)) hG_1
    refine gx_cons ?_
    have hz_1 := sg_in hc_1_0
    have hq_1_0 : isD (sg (q.1 0) n p0) = true := hc_1_0
    refine gx_istore_n C (i := 1) [(1, _), (0, _)] dX2_readNumber_4 rfl (by decide) rfl ?_
    refine gx_iconst (v := 1) C dX2_readNumber_5 (by decide) ?_
    refine gx_istore_n C (i := 2) [(2, _), (1, _), (0, _)] dX2_readNumber_6 rfl (by decide) rfl ?_
    refine gx_iload_n (q := 0) C dX2_readNumber_7 rfl ?_
    refine gx_iconst (v := 3) C dX2_readNumber_8 (by decide) ?_
    refine gx_icmp_ge (tgt := 40) C dX2_readNumber_9 (by decide) (fun c_9 => ?_) (fun c_9 => ?_)
    exact absurd c_9 (by decide)
    refine gx_iload_n (q := 1) C dX2_readNumber_12 rfl ?_
    refine gx_if_le (tgt := 40) C dX2_readNumber_13 (by decide) (fun c_13 => ?_) (fun c_13 => ?_)
    · skip
      refine gx_iload_n (q := 1) C dX2_readNumber_40 rfl ?_
      exact gx_iretM C hr dX2_readNumber_41 (Or.inl ⟨hq_1_0, by rw [numV, if_pos hq_1_0, if_pos c_13], (isDS_same hW_1 (by rw [numE, if_pos hq_1_0, if_pos c_13])), hF_1⟩)
    · skip
      refine gx_aload_n (q := 2) C dX2_readNumber_16 rfl ?_
      refine gx_callM C hD (k_X2_readDigit l hL hW_1 hn hn2 (by omega)) (isDS_in hW_1 0 (Nat.le_of_ble_eq_true rfl)) (isDS_0 hW_1) rfl (cwV 0 C.2.2.2.2.1 gX2_readNumber_X2_readDigit rfl rfl rfl kdV_X2_readDigit ⟨Nat.le_of_ble_eq_true rfl, Nat.le_of_ble_eq_true rfl⟩) rfl rfl (Nat.le_of_ble_eq_true rfl) ⟨Nat.le_of_ble_eq_true rfl, Nat.le_of_ble_eq_true rfl⟩ dX2_readNumber_17 (fun v_2 f_2 hp_2 => ?_)
      rcases hp_2 with ⟨hc_2_0, rfl, hW_2, hG_2⟩ | ⟨hc_2_0, rfl, hW_2, hG_2⟩
      · skip
        have hF_2 := gFr_tr hF_1 hG_2
        refine gx_cons ?_
        have hz_2 := sg_in hc_2_0
        have hq_2_0 : isD (sg (q.1 0) n (p0 + 1)) = true := hc_2_0
        refine gx_istore_n C (i := 3) [(3, _), (2, _), (1, _), (0, _)] dX2_readNumber_20 rfl (by decide) rfl ?_
        refine gx_iload_n (q := 0) C dX2_readNumber_21 rfl ?_
        refine gx_if_ge (tgt := 27) C dX2_readNumber_22 (by decide) (fun c_22 => ?_) (fun c_22 => ?_)
        · skip
          refine gx_bipush (v := 10) C dX2_readNumber_27 (by decide) ?_
          refine gx_iload_n (q := 2) C dX2_readNumber_29 rfl ?_
          refine gx_imul C dX2_readNumber_30 ?_
          refine gx_iload_n (q := 0) C dX2_readNumber_31 rfl ?_
          refine gx_iadd C dX2_readNumber_32 ?_
          refine gx_istore_n C (i := 1) [(1, _), (3, _), (2, _), (0, _)] dX2_readNumber_33 rfl (by decide) rfl ?_
          refine gx_iinc C (q := 2) (v := 2) [(2, _), (1, _), (3, _), (0, _)] dX2_readNumber_34 rfl (by decide) (by decide) rfl ?_
          refine gx_goto (tgt := 7) C dX2_readNumber_37 (by decide) ?_
          refine gx_iload_n (q := 0) C dX2_readNumber_7 rfl ?_
          refine gx_iconst (v := 3) C dX2_readNumber_8 (by decide) ?_
          refine gx_icmp_ge (tgt := 40) C dX2_readNumber_9 (by decide) (fun c_9_1 => ?_) (fun c_9_1 => ?_)
          exact absurd c_9_1 (by decide)
          refine gx_iload_n (q := 1) C dX2_readNumber_12 rfl ?_
          refine gx_if_le (tgt := 40) C dX2_readNumber_13 (by decide) (fun c_13_1 => ?_) (fun c_13_1 => ?_)
          · skip
            exact absurd c_13_1 (dig2 hq_1_0 hq_2_0 c_13)
          · skip
            refine gx_aload_n (q := 3) C dX2_readNumber_16 rfl ?_
            refine gx_callM C hD (k_X2_readDigit l hL hW_2 hn hn2 (by omega)) (isDS_in hW_2 0 (Nat.le_of_ble_eq_true rfl)) (isDS_0 hW_2) rfl (cwV 0 C.2.2.2.2.1 gX2_readNumber_X2_readDigit rfl rfl rfl kdV_X2_readDigit ⟨Nat.le_of_ble_eq_true rfl, Nat.le_of_ble_eq_true rfl⟩) rfl rfl (Nat.le_of_ble_eq_true rfl) ⟨Nat.le_of_ble_eq_true rfl, Nat.le_of_ble_eq_true rfl⟩ dX2_readNumber_17 (fun v_3 f_3 hp_3 => ?_)
            rcases hp_3 with ⟨hc_3_0, rfl, hW_3, hG_3⟩ | ⟨hc_3_0, rfl, hW_3, hG_3⟩
            · skip
              have hF_3 := gFr_tr hF_2 hG_3
              refine gx_cons ?_
              have hz_3 := sg_in hc_3_0
              have hq_3_0 : isD (sg (q.1 0) n (p0 + 2)) = true := hc_3_0
              refine gx_istore_n C (i := 3) [(3, _), (2, _), (1, _), (0, _)] dX2_readNumber_20 rfl (by decide) rfl ?_
              refine gx_iload_n (q := 0) C dX2_readNumber_21 rfl ?_
              refine gx_if_ge (tgt := 27) C dX2_readNumber_22 (by decide) (fun c_22_1 => ?_) (fun c_22_1 => ?_)
              · skip
                refine gx_bipush (v := 10) C dX2_readNumber_27 (by decide) ?_
                refine gx_iload_n (q := 2) C dX2_readNumber_29 rfl ?_
                refine gx_imul C dX2_readNumber_30 ?_
                refine gx_iload_n (q := 0) C dX2_readNumber_31 rfl ?_
                refine gx_iadd C dX2_readNumber_32 ?_
                refine gx_istore_n C (i := 1) [(1, _), (3, _), (2, _), (0, _)] dX2_readNumber_33 rfl (by decide) rfl ?_
                refine gx_iinc C (q := 2) (v := 3) [(2, _), (1, _), (3, _), (0, _)] dX2_readNumber_34 rfl (by decide) (by decide) rfl ?_
                refine gx_goto (tgt := 7) C dX2_readNumber_37 (by decide) ?_
                refine gx_iload_n (q := 0) C dX2_readNumber_7 rfl ?_
                refine gx_iconst (v := 3) C dX2_readNumber_8 (by decide) ?_
                refine gx_icmp_ge (tgt := 40) C dX2_readNumber_9 (by decide) (fun c_9_2 => ?_) (fun c_9_2 => ?_)
                refine gx_iload_n (q := 1) C dX2_readNumber_40 rfl ?_
                exact gx_iretM C hr dX2_readNumber_41 (Or.inl ⟨hq_1_0, by rw [numV, if_pos hq_1_0, if_neg c_13, if_pos hq_2_0, if_pos hq_3_0], (isDS_same hW_3 (by rw [numE, if_pos hq_1_0, if_neg c_13, if_pos hq_2_0, if_pos hq_3_0])), hF_3⟩)
                exact absurd (by decide) c_9_2
              · skip
                exact absurd (isD_ge hq_3_0) c_22_1
            · skip
              have hF_3 := gFr_tr hF_2 hG_3
              refine gx_cons ?_
              have hq_3_0 : isD (sg (q.1 0) n (p0 + 2)) = false := hc_3_0
              refine gx_istore_n C (i := 3) [(3, _), (2, _), (1, _), (0, _)] dX2_readNumber_20 rfl (by decide) rfl ?_
              refine gx_iload_n (q := 0) C dX2_readNumber_21 rfl ?_
              refine gx_if_ge (tgt := 27) C dX2_readNumber_22 (by decide) (fun c_22_1 => ?_) (fun c_22_1 => ?_)
              exact absurd c_22_1 (by decide)
              refine gx_iload_n (q := 2) C dX2_readNumber_25 rfl ?_
              exact gx_iretM C hr dX2_readNumber_26 (Or.inl ⟨hq_1_0, by rw [numV, if_pos hq_1_0, if_neg c_13, if_pos hq_2_0, if_neg (bF hq_3_0)], (isDS_same hW_3 (by rw [numE, if_pos hq_1_0, if_neg c_13, if_pos hq_2_0, if_neg (bF hq_3_0)])), hF_3⟩)
        · skip
          exact absurd (isD_ge hq_2_0) c_22
      · skip
        have hF_2 := gFr_tr hF_1 hG_2
        refine gx_cons ?_
        have hq_2_0 : isD (sg (q.1 0) n (p0 + 1)) = false := hc_2_0
        refine gx_istore_n C (i := 3) [(3, _), (2, _), (1, _), (0, _)] dX2_readNumber_20 rfl (by decide) rfl ?_
        refine gx_iload_n (q := 0) C dX2_readNumber_21 rfl ?_
        refine gx_if_ge (tgt := 27) C dX2_readNumber_22 (by decide) (fun c_22 => ?_) (fun c_22 => ?_)
        exact absurd c_22 (by decide)
        refine gx_iload_n (q := 2) C dX2_readNumber_25 rfl ?_
        exact gx_iretM C hr dX2_readNumber_26 (Or.inl ⟨hq_1_0, by rw [numV, if_pos hq_1_0, if_neg c_13, if_neg (bF hq_2_0)], (isDS_same hW_2 (by rw [numE, if_pos hq_1_0, if_neg c_13, if_neg (bF hq_2_0)])), hF_2⟩)
  · skip
    have hF_1 := gFr_tr (gFr_rf (f := f)) hG_1
    refine gx_cons ?_
    have hq_1_0 : isD (sg (q.1 0) n p0) = false := hc_1_0
    refine gx_istore_n C (i := 1) [(1, _), (0, _)] dX2_readNumber_4 rfl (by decide) rfl ?_
    refine gx_iconst (v := 1) C dX2_readNumber_5 (by decide) ?_
    refine gx_istore_n C (i := 2) [(2, _), (1, _), (0, _)] dX2_readNumber_6 rfl (by decide) rfl ?_
    refine gx_iload_n (q := 0) C dX2_readNumber_7 rfl ?_
    refine gx_iconst (v := 3) C dX2_readNumber_8 (by decide) ?_
    refine gx_icmp_ge (tgt := 40) C dX2_readNumber_9 (by decide) (fun c_9 => ?_) (fun c_9 => ?_)
    exact absurd c_9 (by decide)
    refine gx_iload_n (q := 1) C dX2_readNumber_12 rfl ?_
    refine gx_if_le (tgt := 40) C dX2_readNumber_13 (by decide) (fun c_13 => ?_) (fun c_13 => ?_)
    refine gx_iload_n (q := 1) C dX2_readNumber_40 rfl ?_
    exact gx_iretM C hr dX2_readNumber_41 (Or.inr (⟨hq_1_0, rfl, hW_1, hF_1⟩))
    exact absurd (by decide) c_13
theorem kdN_X2_readOneNumber : yX2_readOneNumber.cls ≠ "java/lang/invoke/MethodHandle" ∧ yX2_readOneNumber.cls ≠ "java/lang/invoke/VarHandle" ∧ (parseMethodDescriptor yX2_readOneNumber.desc).map (fun d => d.parameters.length) = some 0 := by decide +kernel
theorem kdV_X2_readOneNumber : yX2_readOneNumber.cls = RX2 ∧ yX2_readOneNumber.cls ≠ "java/lang/invoke/MethodHandle" ∧ yX2_readOneNumber.cls ≠ "java/lang/invoke/VarHandle" ∧ (parseMethodDescriptor yX2_readOneNumber.desc).map (fun d => d.parameters.length) = some 0 := ⟨rfl, kdN_X2_readOneNumber⟩
theorem numV_f {g : Nat → Int32} {n p : Nat} (h : isD (sg g n p) = true) : ¬ numV g n p < 0 := by
  obtain ⟨x, h1, h2, -⟩ := isD_v h
  unfold numV
  rw [if_pos h]
  split
  · exact isD_f h
  · split
    · rename_i hb
      obtain ⟨y, h3, h4, -⟩ := isD_v hb
      split
      · rename_i hc
        obtain ⟨z, h5, h6, -⟩ := isD_v hc
        rw [h2, h4, h6, show (10 : Int32) = nI 10 from rfl, pk_mul, nI_add, pk_mul, nI_add]
        exact nI_pos (by omega)
      · rw [h2, h4, show (10 : Int32) = nI 10 from rfl, pk_mul, nI_add]
        exact nI_pos (by omega)
    · exact isD_f h
theorem in_X2_readOneNumber_2 : ∀ w ∈ u_ws RX2 TX2 7, w ∈ wsX2_readOneNumber := by decide +kernel
theorem fl_X2_readOneNumber_22 : Cond.fieldLink RX2 22 (TX2 4).1 (TX2 4).2.1 (TX2 4).2.2.1 ∈ wsX2_readOneNumber := by decide +kernel
abbrev rmX2_readOneNumber : Room := { frames := 3, cells := 0, slots := 0, locals := 66 }
set_option maxHeartbeats 4000000 in
set_option maxRecDepth 100000 in
theorem k_X2_readOneNumber (l : Launch) {k : gK} {L : List Nat} {f : Nat → va_E} (hL : L.Nodup) {d : Nat → Nat} {q : DS} {n p0 : Nat} {kd a b c0 : Int32} (hW : isDS k L f d (dC q p0 kd a b c0)) (hn : q.2 0 = nI n) (hn2 : n ≤ 80) (hp : p0 ≤ 100)  : kM l k L f yX2_readOneNumber wsX2_readOneNumber rmX2_readOneNumber [.ref (d 0)] (fun v2 f2 => (isD (sg (q.1 0) n p0) = true ∧ v2 = (some (.int 1)) ∧ isDS k L f2 d (dC q (numE (q.1 0) n p0) kd (numV (q.1 0) n p0) b c0) ∧ gFr d 2 f f2) ∨ (isD (sg (q.1 0) n p0) = false ∧ v2 = (some (.int 0)) ∧ ∃ kd2 a2 b2 c2, isDS k L f2 d (dC q p0 kd2 a2 b2 c2) ∧ gFr d 2 f f2)) := by
  refine kM_of (cc := cX2_readOneNumber) (maxL := 1) (ret := (some .boolean)) (by decide) rfl (Nat.le_of_ble_eq_true rfl) ?_
  intro p e s m args below meth c C hr
  have hD : gD (fun q => q ∈ L) L := ⟨hL, fun _ h => h⟩
  refine gx_lv [(0, _)] [0] rfl ?_
  refine gx_aload_n (q := 0) C dX2_readOneNumber_0 rfl ?_
  refine gx_aload_n (q := 0) C dX2_readOneNumber_1 rfl ?_
  refine gx_callM C hD (k_X2_readNumber l hL hW hn hn2 (by omega)) (isDS_in hW 0 (Nat.le_of_ble_eq_true rfl)) (isDS_0 hW) rfl (cwV 0 C.2.2.2.2.1 gX2_readOneNumber_X2_readNumber rfl rfl rfl kdV_X2_readNumber ⟨Nat.le_of_ble_eq_true rfl, Nat.le_of_ble_eq_true rfl⟩) rfl rfl (Nat.le_of_ble_eq_true rfl) ⟨Nat.le_of_ble_eq_true rfl, Nat.le_of_ble_eq_true rfl⟩ dX2_readOneNumber_2 (fun v_1 f_1 hp_1 => ?_)
  rcases hp_1 with ⟨hc_1_0, rfl, hW_1, hG_1⟩ | ⟨hc_1_0, rfl, hW_1, hG_1⟩
  · skip
    have hF_1 := gFr_tr (gFr_rf (f := f)) hG_1
    refine gx_cons ?_
    have hz_1 := numE_b _ _ _ hc_1_0
    have hq_1_0 : isD (sg (q.1 0) n p0) = true := hc_1_0
    refine gx_put C hD (i := 4) (ty := .int) tyX2_ok nmX2 (isDS_in hW_1 0 (Nat.le_of_ble_eq_true rfl)) (isDS_0 hW_1) rfl in_X2_readOneNumber_2 (by decide) fl_X2_readOneNumber_22 rfl (by decide +kernel) rfl rfl (Nat.le_of_ble_eq_true rfl) rfl dX2_readOneNumber_5 ?_
    refine gx_Ds3 hW_1 hF_1 (fun f_2 hW_2 hF_2 => ?_)
    have hW_2 := isDS_same hW_2 (dC_3 q (numE (q.1 0) n p0) kd a b c0 _)
    refine gx_aload_n (q := 0) C dX2_readOneNumber_8 rfl ?_
    refine gx_get C (i := 4) (isDS_in hW_2 0 (Nat.le_of_ble_eq_true rfl)) (isDS_0 hW_2) rfl in_X2_readOneNumber_2 (by decide) fl_X2_readOneNumber_22 rfl dX2_readOneNumber_9 ?_
    refine gx_top (numV (q.1 0) n p0) rfl ?_
    refine gx_if_lt (tgt := 19) C dX2_readOneNumber_12 (by decide) (fun c_12 => ?_) (fun c_12 => ?_)
    · skip
      exact absurd c_12 (numV_f hq_1_0)
    · skip
      refine gx_iconst (v := 1) C dX2_readOneNumber_15 (by decide) ?_
      refine gx_goto (tgt := 20) C dX2_readOneNumber_16 (by decide) ?_
      exact gx_zretM C hr (Or.inr rfl) dX2_readOneNumber_20 (Or.inl ⟨hq_1_0, rfl, hW_2, hF_2⟩)
  · skip
    have hF_1 := gFr_tr (gFr_rf (f := f)) hG_1
    refine gx_cons ?_
    have hq_1_0 : isD (sg (q.1 0) n p0) = false := hc_1_0
    refine gx_put C hD (i := 4) (ty := .int) tyX2_ok nmX2 (isDS_in hW_1 0 (Nat.le_of_ble_eq_true rfl)) (isDS_0 hW_1) rfl in_X2_readOneNumber_2 (by decide) fl_X2_readOneNumber_22 rfl (by decide +kernel) rfl rfl (Nat.le_of_ble_eq_true rfl) rfl dX2_readOneNumber_5 ?_
    refine gx_Ds3 hW_1 hF_1 (fun f_3 hW_3 hF_3 => ?_)
    have hW_3 := isDS_same hW_3 (dC_3 q p0 kd a b c0 _)
    refine gx_aload_n (q := 0) C dX2_readOneNumber_8 rfl ?_
    refine gx_get C (i := 4) (isDS_in hW_3 0 (Nat.le_of_ble_eq_true rfl)) (isDS_0 hW_3) rfl in_X2_readOneNumber_2 (by decide) fl_X2_readOneNumber_22 rfl dX2_readOneNumber_9 ?_
    refine gx_top ((-1)) rfl ?_
    refine gx_if_lt (tgt := 19) C dX2_readOneNumber_12 (by decide) (fun c_12 => ?_) (fun c_12 => ?_)
    refine gx_iconst (v := 0) C dX2_readOneNumber_19 (by decide) ?_
    exact gx_zretM C hr (Or.inl rfl) dX2_readOneNumber_20 (Or.inr (⟨hq_1_0, rfl, kd, (-1), b, c0, hW_3, hF_3⟩))
    exact absurd (by decide) c_12
theorem kdN_X2_readThrow : yX2_readThrow.cls ≠ "java/lang/invoke/MethodHandle" ∧ yX2_readThrow.cls ≠ "java/lang/invoke/VarHandle" ∧ (parseMethodDescriptor yX2_readThrow.desc).map (fun d => d.parameters.length) = some 0 := by decide +kernel
theorem kdV_X2_readThrow : yX2_readThrow.cls = RX2 ∧ yX2_readThrow.cls ≠ "java/lang/invoke/MethodHandle" ∧ yX2_readThrow.cls ≠ "java/lang/invoke/VarHandle" ∧ (parseMethodDescriptor yX2_readThrow.desc).map (fun d => d.parameters.length) = some 0 := ⟨rfl, kdN_X2_readThrow⟩
theorem in_X2_readThrow_2 : ∀ w ∈ u_ws RX2 TX2 7, w ∈ wsX2_readThrow := by decide +kernel
theorem fl_X2_readThrow_22 : Cond.fieldLink RX2 22 (TX2 4).1 (TX2 4).2.1 (TX2 4).2.2.1 ∈ wsX2_readThrow := by decide +kernel
theorem fl_X2_readThrow_25 : Cond.fieldLink RX2 25 (TX2 5).1 (TX2 5).2.1 (TX2 5).2.2.1 ∈ wsX2_readThrow := by decide +kernel
abbrev rmX2_readThrow : Room := { frames := 2, cells := 0, slots := 0, locals := 43 }
set_option maxHeartbeats 4000000 in
set_option maxRecDepth 100000 in
theorem k_X2_readThrow (l : Launch) {k : gK} {L : List Nat} {f : Nat → va_E} (hL : L.Nodup) {d : Nat → Nat} {q : DS} {n p0 : Nat} {kd a b c0 : Int32} (hW : isDS k L f d (dC q p0 kd a b c0)) (hn : q.2 0 = nI n) (hn2 : n ≤ 80) (hp : p0 ≤ 100)  : kM l k L f yX2_readThrow wsX2_readThrow rmX2_readThrow [.ref (d 0)] (fun v2 f2 => (isD (sg (q.1 0) n p0) = true ∧ sg (q.1 0) n (p0 + 1) = 42 ∧ isD (sg (q.1 0) n (p0 + 2)) = true ∧ v2 = (some (.int 1)) ∧ isDS k L f2 d (dC q (p0 + 3) kd (sg (q.1 0) n p0 - 48) (sg (q.1 0) n (p0 + 2) - 48) c0) ∧ gFr d 2 f f2) ∨ (isD (sg (q.1 0) n p0) = false ∧ v2 = (some (.int 0)) ∧ ∃ kd2 a2 b2 c2, isDS k L f2 d (dC q p0 kd2 a2 b2 c2) ∧ gFr d 2 f f2) ∨ (isD (sg (q.1 0) n p0) = true ∧ ¬ sg (q.1 0) n (p0 + 1) = 42 ∧ v2 = (some (.int 0)) ∧ ∃ kd2 a2 b2 c2, isDS k L f2 d (dC q (p0 + 1) kd2 a2 b2 c2) ∧ gFr d 2 f f2) ∨ (isD (sg (q.1 0) n p0) = true ∧ sg (q.1 0) n (p0 + 1) = 42 ∧ isD (sg (q.1 0) n (p0 + 2)) = false ∧ v2 = (some (.int 0)) ∧ ∃ kd2 a2 b2 c2, isDS k L f2 d (dC q (p0 + 2) kd2 a2 b2 c2) ∧ gFr d 2 f f2)) := by
  refine kM_of (cc := cX2_readThrow) (maxL := 1) (ret := (some .boolean)) (by decide) rfl (Nat.le_of_ble_eq_true rfl) ?_
  intro p e s m args below meth c C hr
  have hD : gD (fun q => q ∈ L) L := ⟨hL, fun _ h => h⟩
  refine gx_lv [(0, _)] [0] rfl ?_
  refine gx_aload_n (q := 0) C dX2_readThrow_0 rfl ?_
  refine gx_aload_n (q := 0) C dX2_readThrow_1 rfl ?_
  refine gx_callM C hD (k_X2_readDigit l hL hW hn hn2 (by omega)) (isDS_in hW 0 (Nat.le_of_ble_eq_true rfl)) (isDS_0 hW) rfl (cwV 0 C.2.2.2.2.1 gX2_readThrow_X2_readDigit rfl rfl rfl kdV_X2_readDigit ⟨Nat.le_of_ble_eq_true rfl, Nat.le_of_ble_eq_true rfl⟩) rfl rfl (Nat.le_of_ble_eq_true rfl) ⟨Nat.le_of_ble_eq_true rfl, Nat.le_of_ble_eq_true rfl⟩ dX2_readThrow_2 (fun v_1 f_1 hp_1 => ?_)
  rcases hp_1 with ⟨hc_1_0, rfl, hW_1, hG_1⟩ | ⟨hc_1_0, rfl, hW_1, hG_1⟩
  · skip
    have hF_1 := gFr_tr (gFr_rf (f := f)) hG_1
    refine gx_cons ?_
    have hz_1 := sg_in hc_1_0
    have hq_1_0 : isD (sg (q.1 0) n p0) = true := hc_1_0
    refine gx_put C hD (i := 4) (ty := .int) tyX2_ok nmX2 (isDS_in hW_1 0 (Nat.le_of_ble_eq_true rfl)) (isDS_0 hW_1) rfl in_X2_readThrow_2 (by decide) fl_X2_readThrow_22 rfl (by decide +kernel) rfl rfl (Nat.le_of_ble_eq_true rfl) rfl dX2_readThrow_5 ?_
    refine gx_Ds3 hW_1 hF_1 (fun f_2 hW_2 hF_2 => ?_)
    have hW_2 := isDS_same hW_2 (dC_3 q (p0 + 1) kd a b c0 _)
    refine gx_aload_n (q := 0) C dX2_readThrow_8 rfl ?_
    refine gx_get C (i := 4) (isDS_in hW_2 0 (Nat.le_of_ble_eq_true rfl)) (isDS_0 hW_2) rfl in_X2_readThrow_2 (by decide) fl_X2_readThrow_22 rfl dX2_readThrow_9 ?_
    refine gx_top (sg (q.1 0) n p0 - 48) rfl ?_
    refine gx_if_lt (tgt := 24) C dX2_readThrow_12 (by decide) (fun c_12 => ?_) (fun c_12 => ?_)
    · skip
      exact absurd c_12 (isD_f hq_1_0)
    · skip
      refine gx_aload_n (q := 0) C dX2_readThrow_15 rfl ?_
      refine gx_bipush (v := 42) C dX2_readThrow_16 (by decide) ?_
      refine gx_callM C hD (k_X2_skip l hL hW_2 hn hn2 (by omega) _) (isDS_in hW_2 0 (Nat.le_of_ble_eq_true rfl)) (isDS_0 hW_2) rfl (cwV 1 C.2.2.2.2.1 gX2_readThrow_X2_skip rfl rfl rfl kdV_X2_skip ⟨Nat.le_of_ble_eq_true rfl, Nat.le_of_ble_eq_true rfl⟩) rfl rfl (Nat.le_of_ble_eq_true rfl) ⟨Nat.le_of_ble_eq_true rfl, Nat.le_of_ble_eq_true rfl⟩ dX2_readThrow_18 (fun v_3 f_3 hp_3 => ?_)
      rcases hp_3 with ⟨hc_3_0, rfl, hW_3, hG_3⟩ | ⟨hc_3_0, rfl, hW_3, hG_3⟩
      · skip
        have hF_3 := gFr_tr hF_2 hG_3
        refine gx_cons ?_
        have hz_3 := sg_ne hc_3_0 (by decide)
        have hq_3_0 : sg (q.1 0) n (p0 + 1) = 42 := hc_3_0
        refine gx_if_ne (tgt := 26) C dX2_readThrow_21 (by decide) (fun c_21 => ?_) (fun c_21 => ?_)
        refine gx_aload_n (q := 0) C dX2_readThrow_26 rfl ?_
        refine gx_aload_n (q := 0) C dX2_readThrow_27 rfl ?_
        refine gx_callM C hD (k_X2_readDigit l hL hW_3 hn hn2 (by omega)) (isDS_in hW_3 0 (Nat.le_of_ble_eq_true rfl)) (isDS_0 hW_3) rfl (cwV 0 C.2.2.2.2.1 gX2_readThrow_X2_readDigit rfl rfl rfl kdV_X2_readDigit ⟨Nat.le_of_ble_eq_true rfl, Nat.le_of_ble_eq_true rfl⟩) rfl rfl (Nat.le_of_ble_eq_true rfl) ⟨Nat.le_of_ble_eq_true rfl, Nat.le_of_ble_eq_true rfl⟩ dX2_readThrow_28 (fun v_4 f_4 hp_4 => ?_)
        rcases hp_4 with ⟨hc_4_0, rfl, hW_4, hG_4⟩ | ⟨hc_4_0, rfl, hW_4, hG_4⟩
        · skip
          have hF_4 := gFr_tr hF_3 hG_4
          refine gx_cons ?_
          have hz_4 := sg_in hc_4_0
          have hq_4_0 : isD (sg (q.1 0) n (p0 + 2)) = true := hc_4_0
          refine gx_put C hD (i := 5) (ty := .int) tyX2_ok nmX2 (isDS_in hW_4 0 (Nat.le_of_ble_eq_true rfl)) (isDS_0 hW_4) rfl in_X2_readThrow_2 (by decide) fl_X2_readThrow_25 rfl (by decide +kernel) rfl rfl (Nat.le_of_ble_eq_true rfl) rfl dX2_readThrow_31 ?_
          refine gx_Ds4 hW_4 hF_4 (fun f_5 hW_5 hF_5 => ?_)
          have hW_5 := isDS_same hW_5 (dC_4 q (p0 + 3) kd (sg (q.1 0) n p0 - 48) b c0 _)
          refine gx_aload_n (q := 0) C dX2_readThrow_34 rfl ?_
          refine gx_get C (i := 5) (isDS_in hW_5 0 (Nat.le_of_ble_eq_true rfl)) (isDS_0 hW_5) rfl in_X2_readThrow_2 (by decide) fl_X2_readThrow_25 rfl dX2_readThrow_35 ?_
          refine gx_top (sg (q.1 0) n (p0 + 2) - 48) rfl ?_
          refine gx_if_lt (tgt := 45) C dX2_readThrow_38 (by decide) (fun c_38 => ?_) (fun c_38 => ?_)
          · skip
            exact absurd c_38 (isD_f hq_4_0)
          · skip
            refine gx_iconst (v := 1) C dX2_readThrow_41 (by decide) ?_
            refine gx_goto (tgt := 46) C dX2_readThrow_42 (by decide) ?_
            exact gx_zretM C hr (Or.inr rfl) dX2_readThrow_46 (Or.inl ⟨hq_1_0, hq_3_0, hq_4_0, rfl, hW_5, hF_5⟩)
        · skip
          have hF_4 := gFr_tr hF_3 hG_4
          refine gx_cons ?_
          have hq_4_0 : isD (sg (q.1 0) n (p0 + 2)) = false := hc_4_0
          refine gx_put C hD (i := 5) (ty := .int) tyX2_ok nmX2 (isDS_in hW_4 0 (Nat.le_of_ble_eq_true rfl)) (isDS_0 hW_4) rfl in_X2_readThrow_2 (by decide) fl_X2_readThrow_25 rfl (by decide +kernel) rfl rfl (Nat.le_of_ble_eq_true rfl) rfl dX2_readThrow_31 ?_
          refine gx_Ds4 hW_4 hF_4 (fun f_6 hW_6 hF_6 => ?_)
          have hW_6 := isDS_same hW_6 (dC_4 q (p0 + 2) kd (sg (q.1 0) n p0 - 48) b c0 _)
          refine gx_aload_n (q := 0) C dX2_readThrow_34 rfl ?_
          refine gx_get C (i := 5) (isDS_in hW_6 0 (Nat.le_of_ble_eq_true rfl)) (isDS_0 hW_6) rfl in_X2_readThrow_2 (by decide) fl_X2_readThrow_25 rfl dX2_readThrow_35 ?_
          refine gx_top ((-1)) rfl ?_
          refine gx_if_lt (tgt := 45) C dX2_readThrow_38 (by decide) (fun c_38 => ?_) (fun c_38 => ?_)
          refine gx_iconst (v := 0) C dX2_readThrow_45 (by decide) ?_
          exact gx_zretM C hr (Or.inl rfl) dX2_readThrow_46 (Or.inr (Or.inr (Or.inr (⟨hq_1_0, hq_3_0, hq_4_0, rfl, kd, (sg (q.1 0) n p0 - 48), (-1), c0, hW_6, hF_6⟩))))
          exact absurd (by decide) c_38
        exact absurd c_21 (by decide)
      · skip
        have hF_3 := gFr_tr hF_2 hG_3
        refine gx_cons ?_
        have hq_3_0 : ¬ sg (q.1 0) n (p0 + 1) = 42 := hc_3_0
        refine gx_if_ne (tgt := 26) C dX2_readThrow_21 (by decide) (fun c_21 => ?_) (fun c_21 => ?_)
        exact absurd (by decide) c_21
        refine gx_iconst (v := 0) C dX2_readThrow_24 (by decide) ?_
        exact gx_zretM C hr (Or.inl rfl) dX2_readThrow_25 (Or.inr (Or.inr (Or.inl ⟨hq_1_0, hq_3_0, rfl, kd, (sg (q.1 0) n p0 - 48), b, c0, hW_3, hF_3⟩)))
  · skip
    have hF_1 := gFr_tr (gFr_rf (f := f)) hG_1
    refine gx_cons ?_
    have hq_1_0 : isD (sg (q.1 0) n p0) = false := hc_1_0
    refine gx_put C hD (i := 4) (ty := .int) tyX2_ok nmX2 (isDS_in hW_1 0 (Nat.le_of_ble_eq_true rfl)) (isDS_0 hW_1) rfl in_X2_readThrow_2 (by decide) fl_X2_readThrow_22 rfl (by decide +kernel) rfl rfl (Nat.le_of_ble_eq_true rfl) rfl dX2_readThrow_5 ?_
    refine gx_Ds3 hW_1 hF_1 (fun f_7 hW_7 hF_7 => ?_)
    have hW_7 := isDS_same hW_7 (dC_3 q p0 kd a b c0 _)
    refine gx_aload_n (q := 0) C dX2_readThrow_8 rfl ?_
    refine gx_get C (i := 4) (isDS_in hW_7 0 (Nat.le_of_ble_eq_true rfl)) (isDS_0 hW_7) rfl in_X2_readThrow_2 (by decide) fl_X2_readThrow_22 rfl dX2_readThrow_9 ?_
    refine gx_top ((-1)) rfl ?_
    refine gx_if_lt (tgt := 24) C dX2_readThrow_12 (by decide) (fun c_12 => ?_) (fun c_12 => ?_)
    refine gx_iconst (v := 0) C dX2_readThrow_24 (by decide) ?_
    exact gx_zretM C hr (Or.inl rfl) dX2_readThrow_25 (Or.inr (Or.inl ⟨hq_1_0, rfl, kd, (-1), b, c0, hW_7, hF_7⟩))
    exact absurd (by decide) c_12
theorem kdN_X2_readGlazing : yX2_readGlazing.cls ≠ "java/lang/invoke/MethodHandle" ∧ yX2_readGlazing.cls ≠ "java/lang/invoke/VarHandle" ∧ (parseMethodDescriptor yX2_readGlazing.desc).map (fun d => d.parameters.length) = some 0 := by decide +kernel
theorem kdV_X2_readGlazing : yX2_readGlazing.cls = RX2 ∧ yX2_readGlazing.cls ≠ "java/lang/invoke/MethodHandle" ∧ yX2_readGlazing.cls ≠ "java/lang/invoke/VarHandle" ∧ (parseMethodDescriptor yX2_readGlazing.desc).map (fun d => d.parameters.length) = some 0 := ⟨rfl, kdN_X2_readGlazing⟩
theorem in_X2_readGlazing_2 : ∀ w ∈ u_ws RX2 TX2 7, w ∈ wsX2_readGlazing := by decide +kernel
theorem fl_X2_readGlazing_22 : Cond.fieldLink RX2 22 (TX2 4).1 (TX2 4).2.1 (TX2 4).2.2.1 ∈ wsX2_readGlazing := by decide +kernel
theorem fl_X2_readGlazing_25 : Cond.fieldLink RX2 25 (TX2 5).1 (TX2 5).2.1 (TX2 5).2.2.1 ∈ wsX2_readGlazing := by decide +kernel
abbrev rmX2_readGlazing : Room := { frames := 3, cells := 0, slots := 0, locals := 66 }
set_option maxHeartbeats 4000000 in
set_option maxRecDepth 100000 in
theorem k_X2_readGlazing (l : Launch) {k : gK} {L : List Nat} {f : Nat → va_E} (hL : L.Nodup) {d : Nat → Nat} {q : DS} {n p0 : Nat} {kd a b c0 : Int32} (hW : isDS k L f d (dC q p0 kd a b c0)) (hn : q.2 0 = nI n) (hn2 : n ≤ 80) (hp : p0 ≤ 100)  : kM l k L f yX2_readGlazing wsX2_readGlazing rmX2_readGlazing [.ref (d 0)] (fun v2 f2 => (isD (sg (q.1 0) n p0) = true ∧ sg (q.1 0) n (numE (q.1 0) n p0) = 46 ∧ isD (sg (q.1 0) n (numE (q.1 0) n p0 + 1)) = true ∧ v2 = (some (.int 1)) ∧ isDS k L f2 d (dC q (numE (q.1 0) n p0 + 2) kd (numV (q.1 0) n p0) (sg (q.1 0) n (numE (q.1 0) n p0 + 1) - 48) c0) ∧ gFr d 2 f f2) ∨ (isD (sg (q.1 0) n p0) = false ∧ v2 = (some (.int 0)) ∧ ∃ kd2 a2 b2 c2, isDS k L f2 d (dC q p0 kd2 a2 b2 c2) ∧ gFr d 2 f f2) ∨ (isD (sg (q.1 0) n p0) = true ∧ ¬ sg (q.1 0) n (numE (q.1 0) n p0) = 46 ∧ v2 = (some (.int 0)) ∧ ∃ kd2 a2 b2 c2, isDS k L f2 d (dC q (numE (q.1 0) n p0) kd2 a2 b2 c2) ∧ gFr d 2 f f2) ∨ (isD (sg (q.1 0) n p0) = true ∧ sg (q.1 0) n (numE (q.1 0) n p0) = 46 ∧ isD (sg (q.1 0) n (numE (q.1 0) n p0 + 1)) = false ∧ v2 = (some (.int 0)) ∧ ∃ kd2 a2 b2 c2, isDS k L f2 d (dC q (numE (q.1 0) n p0 + 1) kd2 a2 b2 c2) ∧ gFr d 2 f f2)) := by
  refine kM_of (cc := cX2_readGlazing) (maxL := 1) (ret := (some .boolean)) (by decide) rfl (Nat.le_of_ble_eq_true rfl) ?_
  intro p e s m args below meth c C hr
  have hD : gD (fun q => q ∈ L) L := ⟨hL, fun _ h => h⟩
  refine gx_lv [(0, _)] [0] rfl ?_
  refine gx_aload_n (q := 0) C dX2_readGlazing_0 rfl ?_
  refine gx_aload_n (q := 0) C dX2_readGlazing_1 rfl ?_
  refine gx_callM C hD (k_X2_readNumber l hL hW hn hn2 (by omega)) (isDS_in hW 0 (Nat.le_of_ble_eq_true rfl)) (isDS_0 hW) rfl (cwV 0 C.2.2.2.2.1 gX2_readGlazing_X2_readNumber rfl rfl rfl kdV_X2_readNumber ⟨Nat.le_of_ble_eq_true rfl, Nat.le_of_ble_eq_true rfl⟩) rfl rfl (Nat.le_of_ble_eq_true rfl) ⟨Nat.le_of_ble_eq_true rfl, Nat.le_of_ble_eq_true rfl⟩ dX2_readGlazing_2 (fun v_1 f_1 hp_1 => ?_)
  rcases hp_1 with ⟨hc_1_0, rfl, hW_1, hG_1⟩ | ⟨hc_1_0, rfl, hW_1, hG_1⟩
  · skip
    have hF_1 := gFr_tr (gFr_rf (f := f)) hG_1
    refine gx_cons ?_
    have hz_1 := numE_b _ _ _ hc_1_0
    have hq_1_0 : isD (sg (q.1 0) n p0) = true := hc_1_0
    have hq3 := numE_3 (q.1 0) n p0
    refine gx_put C hD (i := 4) (ty := .int) tyX2_ok nmX2 (isDS_in hW_1 0 (Nat.le_of_ble_eq_true rfl)) (isDS_0 hW_1) rfl in_X2_readGlazing_2 (by decide) fl_X2_readGlazing_22 rfl (by decide +kernel) rfl rfl (Nat.le_of_ble_eq_true rfl) rfl dX2_readGlazing_5 ?_
    refine gx_Ds3 hW_1 hF_1 (fun f_2 hW_2 hF_2 => ?_)
    have hW_2 := isDS_same hW_2 (dC_3 q (numE (q.1 0) n p0) kd a b c0 _)
    refine gx_aload_n (q := 0) C dX2_readGlazing_8 rfl ?_
    refine gx_get C (i := 4) (isDS_in hW_2 0 (Nat.le_of_ble_eq_true rfl)) (isDS_0 hW_2) rfl in_X2_readGlazing_2 (by decide) fl_X2_readGlazing_22 rfl dX2_readGlazing_9 ?_
    refine gx_top (numV (q.1 0) n p0) rfl ?_
    refine gx_if_lt (tgt := 24) C dX2_readGlazing_12 (by decide) (fun c_12 => ?_) (fun c_12 => ?_)
    · skip
      exact absurd c_12 (numV_f hq_1_0)
    · skip
      refine gx_aload_n (q := 0) C dX2_readGlazing_15 rfl ?_
      refine gx_bipush (v := 46) C dX2_readGlazing_16 (by decide) ?_
      refine gx_callM C hD (k_X2_skip l hL hW_2 hn hn2 (by omega) _) (isDS_in hW_2 0 (Nat.le_of_ble_eq_true rfl)) (isDS_0 hW_2) rfl (cwV 1 C.2.2.2.2.1 gX2_readGlazing_X2_skip rfl rfl rfl kdV_X2_skip ⟨Nat.le_of_ble_eq_true rfl, Nat.le_of_ble_eq_true rfl⟩) rfl rfl (Nat.le_of_ble_eq_true rfl) ⟨Nat.le_of_ble_eq_true rfl, Nat.le_of_ble_eq_true rfl⟩ dX2_readGlazing_18 (fun v_3 f_3 hp_3 => ?_)
      rcases hp_3 with ⟨hc_3_0, rfl, hW_3, hG_3⟩ | ⟨hc_3_0, rfl, hW_3, hG_3⟩
      · skip
        have hF_3 := gFr_tr hF_2 hG_3
        refine gx_cons ?_
        have hz_3 := sg_ne hc_3_0 (by decide)
        have hq_3_0 : sg (q.1 0) n (numE (q.1 0) n p0) = 46 := hc_3_0
        refine gx_if_ne (tgt := 26) C dX2_readGlazing_21 (by decide) (fun c_21 => ?_) (fun c_21 => ?_)
        refine gx_aload_n (q := 0) C dX2_readGlazing_26 rfl ?_
        refine gx_aload_n (q := 0) C dX2_readGlazing_27 rfl ?_
        refine gx_callM C hD (k_X2_readDigit l hL hW_3 hn hn2 (by omega)) (isDS_in hW_3 0 (Nat.le_of_ble_eq_true rfl)) (isDS_0 hW_3) rfl (cwV 0 C.2.2.2.2.1 gX2_readGlazing_X2_readDigit rfl rfl rfl kdV_X2_readDigit ⟨Nat.le_of_ble_eq_true rfl, Nat.le_of_ble_eq_true rfl⟩) rfl rfl (Nat.le_of_ble_eq_true rfl) ⟨Nat.le_of_ble_eq_true rfl, Nat.le_of_ble_eq_true rfl⟩ dX2_readGlazing_28 (fun v_4 f_4 hp_4 => ?_)
        rcases hp_4 with ⟨hc_4_0, rfl, hW_4, hG_4⟩ | ⟨hc_4_0, rfl, hW_4, hG_4⟩
        · skip
          have hF_4 := gFr_tr hF_3 hG_4
          refine gx_cons ?_
          have hz_4 := sg_in hc_4_0
          have hq_4_0 : isD (sg (q.1 0) n ((numE (q.1 0) n p0) + 1)) = true := hc_4_0
          refine gx_put C hD (i := 5) (ty := .int) tyX2_ok nmX2 (isDS_in hW_4 0 (Nat.le_of_ble_eq_true rfl)) (isDS_0 hW_4) rfl in_X2_readGlazing_2 (by decide) fl_X2_readGlazing_25 rfl (by decide +kernel) rfl rfl (Nat.le_of_ble_eq_true rfl) rfl dX2_readGlazing_31 ?_
          refine gx_Ds4 hW_4 hF_4 (fun f_5 hW_5 hF_5 => ?_)
          have hW_5 := isDS_same hW_5 (dC_4 q (((numE (q.1 0) n p0) + 1) + 1) kd (numV (q.1 0) n p0) b c0 _)
          refine gx_aload_n (q := 0) C dX2_readGlazing_34 rfl ?_
          refine gx_get C (i := 5) (isDS_in hW_5 0 (Nat.le_of_ble_eq_true rfl)) (isDS_0 hW_5) rfl in_X2_readGlazing_2 (by decide) fl_X2_readGlazing_25 rfl dX2_readGlazing_35 ?_
          refine gx_top (sg (q.1 0) n ((numE (q.1 0) n p0) + 1) - 48) rfl ?_
          refine gx_if_lt (tgt := 45) C dX2_readGlazing_38 (by decide) (fun c_38 => ?_) (fun c_38 => ?_)
          · skip
            exact absurd c_38 (isD_f hq_4_0)
          · skip
            refine gx_iconst (v := 1) C dX2_readGlazing_41 (by decide) ?_
            refine gx_goto (tgt := 46) C dX2_readGlazing_42 (by decide) ?_
            exact gx_zretM C hr (Or.inr rfl) dX2_readGlazing_46 (Or.inl ⟨hq_1_0, hq_3_0, hq_4_0, rfl, hW_5, hF_5⟩)
        · skip
          have hF_4 := gFr_tr hF_3 hG_4
          refine gx_cons ?_
          have hq_4_0 : isD (sg (q.1 0) n ((numE (q.1 0) n p0) + 1)) = false := hc_4_0
          refine gx_put C hD (i := 5) (ty := .int) tyX2_ok nmX2 (isDS_in hW_4 0 (Nat.le_of_ble_eq_true rfl)) (isDS_0 hW_4) rfl in_X2_readGlazing_2 (by decide) fl_X2_readGlazing_25 rfl (by decide +kernel) rfl rfl (Nat.le_of_ble_eq_true rfl) rfl dX2_readGlazing_31 ?_
          refine gx_Ds4 hW_4 hF_4 (fun f_6 hW_6 hF_6 => ?_)
          have hW_6 := isDS_same hW_6 (dC_4 q ((numE (q.1 0) n p0) + 1) kd (numV (q.1 0) n p0) b c0 _)
          refine gx_aload_n (q := 0) C dX2_readGlazing_34 rfl ?_
          refine gx_get C (i := 5) (isDS_in hW_6 0 (Nat.le_of_ble_eq_true rfl)) (isDS_0 hW_6) rfl in_X2_readGlazing_2 (by decide) fl_X2_readGlazing_25 rfl dX2_readGlazing_35 ?_
          refine gx_top ((-1)) rfl ?_
          refine gx_if_lt (tgt := 45) C dX2_readGlazing_38 (by decide) (fun c_38 => ?_) (fun c_38 => ?_)
          refine gx_iconst (v := 0) C dX2_readGlazing_45 (by decide) ?_
          exact gx_zretM C hr (Or.inl rfl) dX2_readGlazing_46 (Or.inr (Or.inr (Or.inr (⟨hq_1_0, hq_3_0, hq_4_0, rfl, kd, (numV (q.1 0) n p0), (-1), c0, hW_6, hF_6⟩))))
          exact absurd (by decide) c_38
        exact absurd c_21 (by decide)
      · skip
        have hF_3 := gFr_tr hF_2 hG_3
        refine gx_cons ?_
        have hq_3_0 : ¬ sg (q.1 0) n (numE (q.1 0) n p0) = 46 := hc_3_0
        refine gx_if_ne (tgt := 26) C dX2_readGlazing_21 (by decide) (fun c_21 => ?_) (fun c_21 => ?_)
        exact absurd (by decide) c_21
        refine gx_iconst (v := 0) C dX2_readGlazing_24 (by decide) ?_
        exact gx_zretM C hr (Or.inl rfl) dX2_readGlazing_25 (Or.inr (Or.inr (Or.inl ⟨hq_1_0, hq_3_0, rfl, kd, (numV (q.1 0) n p0), b, c0, hW_3, hF_3⟩)))
  · skip
    have hF_1 := gFr_tr (gFr_rf (f := f)) hG_1
    refine gx_cons ?_
    have hq_1_0 : isD (sg (q.1 0) n p0) = false := hc_1_0
    refine gx_put C hD (i := 4) (ty := .int) tyX2_ok nmX2 (isDS_in hW_1 0 (Nat.le_of_ble_eq_true rfl)) (isDS_0 hW_1) rfl in_X2_readGlazing_2 (by decide) fl_X2_readGlazing_22 rfl (by decide +kernel) rfl rfl (Nat.le_of_ble_eq_true rfl) rfl dX2_readGlazing_5 ?_
    refine gx_Ds3 hW_1 hF_1 (fun f_7 hW_7 hF_7 => ?_)
    have hW_7 := isDS_same hW_7 (dC_3 q p0 kd a b c0 _)
    refine gx_aload_n (q := 0) C dX2_readGlazing_8 rfl ?_
    refine gx_get C (i := 4) (isDS_in hW_7 0 (Nat.le_of_ble_eq_true rfl)) (isDS_0 hW_7) rfl in_X2_readGlazing_2 (by decide) fl_X2_readGlazing_22 rfl dX2_readGlazing_9 ?_
    refine gx_top ((-1)) rfl ?_
    refine gx_if_lt (tgt := 24) C dX2_readGlazing_12 (by decide) (fun c_12 => ?_) (fun c_12 => ?_)
    refine gx_iconst (v := 0) C dX2_readGlazing_24 (by decide) ?_
    exact gx_zretM C hr (Or.inl rfl) dX2_readGlazing_25 (Or.inr (Or.inl ⟨hq_1_0, rfl, kd, (-1), b, c0, hW_7, hF_7⟩))
    exact absurd (by decide) c_12
theorem kdN_X2_readBooking : yX2_readBooking.cls ≠ "java/lang/invoke/MethodHandle" ∧ yX2_readBooking.cls ≠ "java/lang/invoke/VarHandle" ∧ (parseMethodDescriptor yX2_readBooking.desc).map (fun d => d.parameters.length) = some 0 := by decide +kernel
theorem kdV_X2_readBooking : yX2_readBooking.cls = RX2 ∧ yX2_readBooking.cls ≠ "java/lang/invoke/MethodHandle" ∧ yX2_readBooking.cls ≠ "java/lang/invoke/VarHandle" ∧ (parseMethodDescriptor yX2_readBooking.desc).map (fun d => d.parameters.length) = some 0 := ⟨rfl, kdN_X2_readBooking⟩
theorem in_X2_readBooking_2 : ∀ w ∈ u_ws RX2 TX2 7, w ∈ wsX2_readBooking := by decide +kernel
theorem fl_X2_readBooking_22 : Cond.fieldLink RX2 22 (TX2 4).1 (TX2 4).2.1 (TX2 4).2.2.1 ∈ wsX2_readBooking := by decide +kernel
theorem fl_X2_readBooking_25 : Cond.fieldLink RX2 25 (TX2 5).1 (TX2 5).2.1 (TX2 5).2.2.1 ∈ wsX2_readBooking := by decide +kernel
theorem fl_X2_readBooking_28 : Cond.fieldLink RX2 28 (TX2 6).1 (TX2 6).2.1 (TX2 6).2.2.1 ∈ wsX2_readBooking := by decide +kernel
abbrev rmX2_readBooking : Room := { frames := 3, cells := 0, slots := 0, locals := 66 }
set_option maxHeartbeats 4000000 in
set_option maxRecDepth 100000 in
theorem k_X2_readBooking (l : Launch) {k : gK} {L : List Nat} {f : Nat → va_E} (hL : L.Nodup) {d : Nat → Nat} {q : DS} {n p0 : Nat} {kd a b : Int32} (hW : isDS k L f d (dC q p0 kd a b 0)) (hn : q.2 0 = nI n) (hn2 : n ≤ 80) (hp : p0 ≤ 100)  : kM l k L f yX2_readBooking wsX2_readBooking rmX2_readBooking [.ref (d 0)] (fun v2 f2 => (isD (sg (q.1 0) n p0) = true ∧ isD (sg (q.1 0) n (p0 + 1)) = true ∧ sg (q.1 0) n (p0 + 2) = 43 ∧ isD (sg (q.1 0) n (p0 + 3)) = true ∧ v2 = (some (.int 1)) ∧ isDS k L f2 d (dC q (numE (q.1 0) n (p0 + 3)) kd (sg (q.1 0) n p0 - 48) (sg (q.1 0) n (p0 + 1) - 48) (numV (q.1 0) n (p0 + 3))) ∧ gFr d 2 f f2) ∨ (isD (sg (q.1 0) n p0) = true ∧ isD (sg (q.1 0) n (p0 + 1)) = true ∧ ¬ sg (q.1 0) n (p0 + 2) = 43 ∧ v2 = (some (.int 1)) ∧ isDS k L f2 d (dC q (p0 + 2) kd (sg (q.1 0) n p0 - 48) (sg (q.1 0) n (p0 + 1) - 48) 0) ∧ gFr d 2 f f2) ∨ (isD (sg (q.1 0) n p0) = false ∧ v2 = (some (.int 0)) ∧ ∃ kd2 a2 b2 c2, isDS k L f2 d (dC q p0 kd2 a2 b2 c2) ∧ gFr d 2 f f2) ∨ (isD (sg (q.1 0) n p0) = true ∧ isD (sg (q.1 0) n (p0 + 1)) = false ∧ v2 = (some (.int 0)) ∧ ∃ kd2 a2 b2 c2, isDS k L f2 d (dC q (p0 + 1) kd2 a2 b2 c2) ∧ gFr d 2 f f2) ∨ (isD (sg (q.1 0) n p0) = true ∧ isD (sg (q.1 0) n (p0 + 1)) = true ∧ sg (q.1 0) n (p0 + 2) = 43 ∧ isD (sg (q.1 0) n (p0 + 3)) = false ∧ v2 = (some (.int 0)) ∧ ∃ kd2 a2 b2 c2, isDS k L f2 d (dC q (p0 + 3) kd2 a2 b2 c2) ∧ gFr d 2 f f2)) := by
  refine kM_of (cc := cX2_readBooking) (maxL := 1) (ret := (some .boolean)) (by decide) rfl (Nat.le_of_ble_eq_true rfl) ?_
  intro p e s m args below meth c C hr
  have hD : gD (fun q => q ∈ L) L := ⟨hL, fun _ h => h⟩
  refine gx_lv [(0, _)] [0] rfl ?_
  refine gx_aload_n (q := 0) C dX2_readBooking_0 rfl ?_
  refine gx_aload_n (q := 0) C dX2_readBooking_1 rfl ?_
  refine gx_callM C hD (k_X2_readDigit l hL hW hn hn2 (by omega)) (isDS_in hW 0 (Nat.le_of_ble_eq_true rfl)) (isDS_0 hW) rfl (cwV 0 C.2.2.2.2.1 gX2_readBooking_X2_readDigit rfl rfl rfl kdV_X2_readDigit ⟨Nat.le_of_ble_eq_true rfl, Nat.le_of_ble_eq_true rfl⟩) rfl rfl (Nat.le_of_ble_eq_true rfl) ⟨Nat.le_of_ble_eq_true rfl, Nat.le_of_ble_eq_true rfl⟩ dX2_readBooking_2 (fun v_1 f_1 hp_1 => ?_)
  rcases hp_1 with ⟨hc_1_0, rfl, hW_1, hG_1⟩ | ⟨hc_1_0, rfl, hW_1, hG_1⟩
  · skip
    have hF_1 := gFr_tr (gFr_rf (f := f)) hG_1
    refine gx_cons ?_
    have hz_1 := sg_in hc_1_0
    have hq_1_0 : isD (sg (q.1 0) n p0) = true := hc_1_0
    refine gx_put C hD (i := 4) (ty := .int) tyX2_ok nmX2 (isDS_in hW_1 0 (Nat.le_of_ble_eq_true rfl)) (isDS_0 hW_1) rfl in_X2_readBooking_2 (by decide) fl_X2_readBooking_22 rfl (by decide +kernel) rfl rfl (Nat.le_of_ble_eq_true rfl) rfl dX2_readBooking_5 ?_
    refine gx_Ds3 hW_1 hF_1 (fun f_2 hW_2 hF_2 => ?_)
    have hW_2 := isDS_same hW_2 (dC_3 q (p0 + 1) kd a b 0 _)
    refine gx_aload_n (q := 0) C dX2_readBooking_8 rfl ?_
    refine gx_get C (i := 4) (isDS_in hW_2 0 (Nat.le_of_ble_eq_true rfl)) (isDS_0 hW_2) rfl in_X2_readBooking_2 (by decide) fl_X2_readBooking_22 rfl dX2_readBooking_9 ?_
    refine gx_top (sg (q.1 0) n p0 - 48) rfl ?_
    refine gx_if_ge (tgt := 17) C dX2_readBooking_12 (by decide) (fun c_12 => ?_) (fun c_12 => ?_)
    · skip
      refine gx_aload_n (q := 0) C dX2_readBooking_17 rfl ?_
      refine gx_aload_n (q := 0) C dX2_readBooking_18 rfl ?_
      refine gx_callM C hD (k_X2_readDigit l hL hW_2 hn hn2 (by omega)) (isDS_in hW_2 0 (Nat.le_of_ble_eq_true rfl)) (isDS_0 hW_2) rfl (cwV 0 C.2.2.2.2.1 gX2_readBooking_X2_readDigit rfl rfl rfl kdV_X2_readDigit ⟨Nat.le_of_ble_eq_true rfl, Nat.le_of_ble_eq_true rfl⟩) rfl rfl (Nat.le_of_ble_eq_true rfl) ⟨Nat.le_of_ble_eq_true rfl, Nat.le_of_ble_eq_true rfl⟩ dX2_readBooking_19 (fun v_3 f_3 hp_3 => ?_)
      rcases hp_3 with ⟨hc_3_0, rfl, hW_3, hG_3⟩ | ⟨hc_3_0, rfl, hW_3, hG_3⟩
      · skip
        have hF_3 := gFr_tr hF_2 hG_3
        refine gx_cons ?_
        have hz_3 := sg_in hc_3_0
        have hq_3_0 : isD (sg (q.1 0) n (p0 + 1)) = true := hc_3_0
        refine gx_put C hD (i := 5) (ty := .int) tyX2_ok nmX2 (isDS_in hW_3 0 (Nat.le_of_ble_eq_true rfl)) (isDS_0 hW_3) rfl in_X2_readBooking_2 (by decide) fl_X2_readBooking_25 rfl (by decide +kernel) rfl rfl (Nat.le_of_ble_eq_true rfl) rfl dX2_readBooking_22 ?_
        refine gx_Ds4 hW_3 hF_3 (fun f_4 hW_4 hF_4 => ?_)
        have hW_4 := isDS_same hW_4 (dC_4 q (p0 + 2) kd (sg (q.1 0) n p0 - 48) b 0 _)
        refine gx_aload_n (q := 0) C dX2_readBooking_25 rfl ?_
        refine gx_get C (i := 5) (isDS_in hW_4 0 (Nat.le_of_ble_eq_true rfl)) (isDS_0 hW_4) rfl in_X2_readBooking_2 (by decide) fl_X2_readBooking_25 rfl dX2_readBooking_26 ?_
        refine gx_top (sg (q.1 0) n (p0 + 1) - 48) rfl ?_
        refine gx_if_ge (tgt := 34) C dX2_readBooking_29 (by decide) (fun c_29 => ?_) (fun c_29 => ?_)
        · skip
          refine gx_aload_n (q := 0) C dX2_readBooking_34 rfl ?_
          refine gx_bipush (v := 43) C dX2_readBooking_35 (by decide) ?_
          refine gx_callM C hD (k_X2_skip l hL hW_4 hn hn2 (by omega) _) (isDS_in hW_4 0 (Nat.le_of_ble_eq_true rfl)) (isDS_0 hW_4) rfl (cwV 1 C.2.2.2.2.1 gX2_readBooking_X2_skip rfl rfl rfl kdV_X2_skip ⟨Nat.le_of_ble_eq_true rfl, Nat.le_of_ble_eq_true rfl⟩) rfl rfl (Nat.le_of_ble_eq_true rfl) ⟨Nat.le_of_ble_eq_true rfl, Nat.le_of_ble_eq_true rfl⟩ dX2_readBooking_37 (fun v_5 f_5 hp_5 => ?_)
          rcases hp_5 with ⟨hc_5_0, rfl, hW_5, hG_5⟩ | ⟨hc_5_0, rfl, hW_5, hG_5⟩
          · skip
            have hF_5 := gFr_tr hF_4 hG_5
            refine gx_cons ?_
            have hz_5 := sg_ne hc_5_0 (by decide)
            have hq_5_0 : sg (q.1 0) n (p0 + 2) = 43 := hc_5_0
            refine gx_if_eq (tgt := 51) C dX2_readBooking_40 (by decide) (fun c_40 => ?_) (fun c_40 => ?_)
            exact absurd c_40 (by decide)
            refine gx_aload_n (q := 0) C dX2_readBooking_43 rfl ?_
            refine gx_aload_n (q := 0) C dX2_readBooking_44 rfl ?_
            refine gx_callM C hD (k_X2_readNumber l hL hW_5 hn hn2 (by omega)) (isDS_in hW_5 0 (Nat.le_of_ble_eq_true rfl)) (isDS_0 hW_5) rfl (cwV 0 C.2.2.2.2.1 gX2_readBooking_X2_readNumber rfl rfl rfl kdV_X2_readNumber ⟨Nat.le_of_ble_eq_true rfl, Nat.le_of_ble_eq_true rfl⟩) rfl rfl (Nat.le_of_ble_eq_true rfl) ⟨Nat.le_of_ble_eq_true rfl, Nat.le_of_ble_eq_true rfl⟩ dX2_readBooking_45 (fun v_6 f_6 hp_6 => ?_)
            rcases hp_6 with ⟨hc_6_0, rfl, hW_6, hG_6⟩ | ⟨hc_6_0, rfl, hW_6, hG_6⟩
            · skip
              have hF_6 := gFr_tr hF_5 hG_6
              refine gx_cons ?_
              have hz_6 := numE_b _ _ _ hc_6_0
              have hq_6_0 : isD (sg (q.1 0) n (p0 + 3)) = true := hc_6_0
              refine gx_put C hD (i := 6) (ty := .int) tyX2_ok nmX2 (isDS_in hW_6 0 (Nat.le_of_ble_eq_true rfl)) (isDS_0 hW_6) rfl in_X2_readBooking_2 (by decide) fl_X2_readBooking_28 rfl (by decide +kernel) rfl rfl (Nat.le_of_ble_eq_true rfl) rfl dX2_readBooking_48 ?_
              refine gx_Ds5 hW_6 hF_6 (fun f_7 hW_7 hF_7 => ?_)
              have hW_7 := isDS_same hW_7 (dC_5 q (numE (q.1 0) n (p0 + 3)) kd (sg (q.1 0) n p0 - 48) (sg (q.1 0) n (p0 + 1) - 48) 0 _)
              refine gx_aload_n (q := 0) C dX2_readBooking_51 rfl ?_
              refine gx_get C (i := 6) (isDS_in hW_7 0 (Nat.le_of_ble_eq_true rfl)) (isDS_0 hW_7) rfl in_X2_readBooking_2 (by decide) fl_X2_readBooking_28 rfl dX2_readBooking_52 ?_
              refine gx_top (numV (q.1 0) n (p0 + 3)) rfl ?_
              refine gx_if_lt (tgt := 62) C dX2_readBooking_55 (by decide) (fun c_55 => ?_) (fun c_55 => ?_)
              · skip
                exact absurd c_55 (numV_f hq_6_0)
              · skip
                refine gx_iconst (v := 1) C dX2_readBooking_58 (by decide) ?_
                refine gx_goto (tgt := 63) C dX2_readBooking_59 (by decide) ?_
                exact gx_zretM C hr (Or.inr rfl) dX2_readBooking_63 (Or.inl ⟨hq_1_0, hq_3_0, hq_5_0, hq_6_0, rfl, hW_7, hF_7⟩)
            · skip
              have hF_6 := gFr_tr hF_5 hG_6
              refine gx_cons ?_
              have hq_6_0 : isD (sg (q.1 0) n (p0 + 3)) = false := hc_6_0
              refine gx_put C hD (i := 6) (ty := .int) tyX2_ok nmX2 (isDS_in hW_6 0 (Nat.le_of_ble_eq_true rfl)) (isDS_0 hW_6) rfl in_X2_readBooking_2 (by decide) fl_X2_readBooking_28 rfl (by decide +kernel) rfl rfl (Nat.le_of_ble_eq_true rfl) rfl dX2_readBooking_48 ?_
              refine gx_Ds5 hW_6 hF_6 (fun f_8 hW_8 hF_8 => ?_)
              have hW_8 := isDS_same hW_8 (dC_5 q (p0 + 3) kd (sg (q.1 0) n p0 - 48) (sg (q.1 0) n (p0 + 1) - 48) 0 _)
              refine gx_aload_n (q := 0) C dX2_readBooking_51 rfl ?_
              refine gx_get C (i := 6) (isDS_in hW_8 0 (Nat.le_of_ble_eq_true rfl)) (isDS_0 hW_8) rfl in_X2_readBooking_2 (by decide) fl_X2_readBooking_28 rfl dX2_readBooking_52 ?_
              refine gx_top ((-1)) rfl ?_
              refine gx_if_lt (tgt := 62) C dX2_readBooking_55 (by decide) (fun c_55 => ?_) (fun c_55 => ?_)
              refine gx_iconst (v := 0) C dX2_readBooking_62 (by decide) ?_
              exact gx_zretM C hr (Or.inl rfl) dX2_readBooking_63 (Or.inr (Or.inr (Or.inr (Or.inr (⟨hq_1_0, hq_3_0, hq_5_0, hq_6_0, rfl, kd, (sg (q.1 0) n p0 - 48), (sg (q.1 0) n (p0 + 1) - 48), (-1), hW_8, hF_8⟩)))))
              exact absurd (by decide) c_55
          · skip
            have hF_5 := gFr_tr hF_4 hG_5
            refine gx_cons ?_
            have hq_5_0 : ¬ sg (q.1 0) n (p0 + 2) = 43 := hc_5_0
            refine gx_if_eq (tgt := 51) C dX2_readBooking_40 (by decide) (fun c_40 => ?_) (fun c_40 => ?_)
            refine gx_aload_n (q := 0) C dX2_readBooking_51 rfl ?_
            refine gx_get C (i := 6) (isDS_in hW_5 0 (Nat.le_of_ble_eq_true rfl)) (isDS_0 hW_5) rfl in_X2_readBooking_2 (by decide) fl_X2_readBooking_28 rfl dX2_readBooking_52 ?_
            refine gx_top (0) rfl ?_
            refine gx_if_lt (tgt := 62) C dX2_readBooking_55 (by decide) (fun c_55 => ?_) (fun c_55 => ?_)
            exact absurd c_55 (by decide)
            refine gx_iconst (v := 1) C dX2_readBooking_58 (by decide) ?_
            refine gx_goto (tgt := 63) C dX2_readBooking_59 (by decide) ?_
            exact gx_zretM C hr (Or.inr rfl) dX2_readBooking_63 (Or.inr (Or.inl ⟨hq_1_0, hq_3_0, hq_5_0, rfl, hW_5, hF_5⟩))
            exact absurd (by decide) c_40
        · skip
          exact absurd (isD_ge hq_3_0) c_29
      · skip
        have hF_3 := gFr_tr hF_2 hG_3
        refine gx_cons ?_
        have hq_3_0 : isD (sg (q.1 0) n (p0 + 1)) = false := hc_3_0
        refine gx_put C hD (i := 5) (ty := .int) tyX2_ok nmX2 (isDS_in hW_3 0 (Nat.le_of_ble_eq_true rfl)) (isDS_0 hW_3) rfl in_X2_readBooking_2 (by decide) fl_X2_readBooking_25 rfl (by decide +kernel) rfl rfl (Nat.le_of_ble_eq_true rfl) rfl dX2_readBooking_22 ?_
        refine gx_Ds4 hW_3 hF_3 (fun f_9 hW_9 hF_9 => ?_)
        have hW_9 := isDS_same hW_9 (dC_4 q (p0 + 1) kd (sg (q.1 0) n p0 - 48) b 0 _)
        refine gx_aload_n (q := 0) C dX2_readBooking_25 rfl ?_
        refine gx_get C (i := 5) (isDS_in hW_9 0 (Nat.le_of_ble_eq_true rfl)) (isDS_0 hW_9) rfl in_X2_readBooking_2 (by decide) fl_X2_readBooking_25 rfl dX2_readBooking_26 ?_
        refine gx_top ((-1)) rfl ?_
        refine gx_if_ge (tgt := 34) C dX2_readBooking_29 (by decide) (fun c_29 => ?_) (fun c_29 => ?_)
        exact absurd c_29 (by decide)
        refine gx_iconst (v := 0) C dX2_readBooking_32 (by decide) ?_
        exact gx_zretM C hr (Or.inl rfl) dX2_readBooking_33 (Or.inr (Or.inr (Or.inr (Or.inl ⟨hq_1_0, hq_3_0, rfl, kd, (sg (q.1 0) n p0 - 48), (-1), 0, hW_9, hF_9⟩))))
    · skip
      exact absurd (isD_ge hq_1_0) c_12
  · skip
    have hF_1 := gFr_tr (gFr_rf (f := f)) hG_1
    refine gx_cons ?_
    have hq_1_0 : isD (sg (q.1 0) n p0) = false := hc_1_0
    refine gx_put C hD (i := 4) (ty := .int) tyX2_ok nmX2 (isDS_in hW_1 0 (Nat.le_of_ble_eq_true rfl)) (isDS_0 hW_1) rfl in_X2_readBooking_2 (by decide) fl_X2_readBooking_22 rfl (by decide +kernel) rfl rfl (Nat.le_of_ble_eq_true rfl) rfl dX2_readBooking_5 ?_
    refine gx_Ds3 hW_1 hF_1 (fun f_10 hW_10 hF_10 => ?_)
    have hW_10 := isDS_same hW_10 (dC_3 q p0 kd a b 0 _)
    refine gx_aload_n (q := 0) C dX2_readBooking_8 rfl ?_
    refine gx_get C (i := 4) (isDS_in hW_10 0 (Nat.le_of_ble_eq_true rfl)) (isDS_0 hW_10) rfl in_X2_readBooking_2 (by decide) fl_X2_readBooking_22 rfl dX2_readBooking_9 ?_
    refine gx_top ((-1)) rfl ?_
    refine gx_if_ge (tgt := 17) C dX2_readBooking_12 (by decide) (fun c_12 => ?_) (fun c_12 => ?_)
    exact absurd c_12 (by decide)
    refine gx_iconst (v := 0) C dX2_readBooking_15 (by decide) ?_
    exact gx_zretM C hr (Or.inl rfl) dX2_readBooking_16 (Or.inr (Or.inr (Or.inl ⟨hq_1_0, rfl, kd, (-1), b, 0, hW_10, hF_10⟩)))
