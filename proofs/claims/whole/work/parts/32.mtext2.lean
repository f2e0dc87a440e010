theorem kdN_X7_findFault : yX7_findFault.cls ≠ "java/lang/invoke/MethodHandle" ∧ yX7_findFault.cls ≠ "java/lang/invoke/VarHandle" ∧ (parseMethodDescriptor yX7_findFault.desc).map (fun d => d.parameters.length) = some 0 := by decide +kernel
theorem kdV_X7_findFault : yX7_findFault.cls = RX7 ∧ yX7_findFault.cls ≠ "java/lang/invoke/MethodHandle" ∧ yX7_findFault.cls ≠ "java/lang/invoke/VarHandle" ∧ (parseMethodDescriptor yX7_findFault.desc).map (fun d => d.parameters.length) = some 0 := ⟨rfl, kdN_X7_findFault⟩
theorem nI_n6 {j : Nat} (hj : j ≤ 90) : nI j ≠ -6 := fun z => nI_pos (n := j) (by omega) (by rw [z]; decide)
theorem in_X7_findFault_7 : ∀ w ∈ u_ws RX7 TX7 13, w ∈ wsX7_findFault := by decide +kernel
theorem fl_X7_findFault_183 : Cond.fieldLink RX7 183 (TX7 7).1 (TX7 7).2.1 (TX7 7).2.2.1 ∈ wsX7_findFault := by decide +kernel
theorem fl_X7_findFault_186 : Cond.fieldLink RX7 186 (TX7 8).1 (TX7 8).2.1 (TX7 8).2.2.1 ∈ wsX7_findFault := by decide +kernel
theorem fl_X7_findFault_175 : Cond.fieldLink RX7 175 (TX7 6).1 (TX7 6).2.1 (TX7 6).2.2.1 ∈ wsX7_findFault := by decide +kernel
abbrev rmX7_findFault : Room := { frames := 4, cells := 0, slots := 0, locals := 84 }
set_option maxHeartbeats 4000000 in
set_option maxRecDepth 100000 in
theorem k_X7_findFault (l : Launch) {k : gK} {L : List Nat} {f : Nat → va_E} (hL : L.Nodup) {o : Nat → Nat} {y : MS} (hW : isMS k L f o y) {n : Nat} (hn : y.2 1 = nI n) (hn2 : n ≤ 80)  : kM l k L f yX7_findFault wsX7_findFault rmX7_findFault [.ref (o 0)] (fun v2 f2 => v2 = some (.int (flt (y.1 4) n 80 0)) ∧ ∃ y2, mEq y y2 ∧ (flt (y.1 4) n 80 0 = -6 → y2.2 3 = 0) ∧ isMS k L f2 o y2 ∧ gFr o 6 f f2) := by
  refine kM_of (cc := cX7_findFault) (maxL := 1) (ret := (some .int)) (by decide) rfl (Nat.le_of_ble_eq_true rfl) ?_
  intro p e s m args below meth c C hr
  have hD : gD (fun q => q ∈ L) L := ⟨hL, fun _ h => h⟩
  refine gx_lv [(0, _)] [0] rfl ?_
  refine gx_aload_n (q := 0) C dX7_findFault_0 rfl ?_
  refine gx_iconst (v := 0) C dX7_findFault_1 (by decide) ?_
  refine gx_put C hD (i := 7) (ty := .int) tyX7_ok nmX7 (isMS_in hW 0 (Nat.le_of_ble_eq_true rfl)) (isMS_0 hW) rfl in_X7_findFault_7 (by decide) fl_X7_findFault_183 rfl (by decide +kernel) rfl rfl (Nat.le_of_ble_eq_true rfl) rfl dX7_findFault_2 ?_
  refine gx_Ss2 hW (gFr_rf (f := f)) (fun f_1 hW_1 hF_1 => ?_)
  have hC0 := isMS_same hW_1 (mC_z y)
  refine gx_aload_n (q := 0) C dX7_findFault_5 rfl ?_
  refine gx_iconst (v := 0) C dX7_findFault_6 (by decide) ?_
  refine gx_put C hD (i := 8) (ty := .boolean) tyX7_ok nmX7 (isMS_in hC0 0 (Nat.le_of_ble_eq_true rfl)) (isMS_0 hC0) rfl in_X7_findFault_7 (by decide) fl_X7_findFault_186 rfl (by decide +kernel) (by first | rfl | exact gnz _) (by first | rfl | exact gfz _) (Nat.le_of_ble_eq_true rfl) rfl dX7_findFault_7 ?_
  refine gx_Ss3 hC0 hF_1 (fun f_2 hW_2 hF_2 => ?_)
  have hW_2 := isMS_same hW_2 (mC_3 y 0 (y.2 3) (y.2 4) (y.2 5) (y.2 6) (y.2 7) _)
  refine gx_loop (σ := Nat × Nat × (Nat → va_E)) (fun z => z.2.2) (fun z => [(0, .ref (o 0))]) (fun z => 2 * z.1 ≤ z.2.1 ∧ z.2.1 ≤ n ∧ flt (y.1 4) n (80 - z.1) z.2.1 = flt (y.1 4) n 80 0 ∧ ∃ le2 a2 b2 c2, isMS k L z.2.2 o (mC y z.2.1 0 le2 a2 b2 c2) ∧ gFr o 6 f z.2.2) (fun z => 80 - z.1) (0, 0, _) [0] rfl rfl ?_ ?_
  · exact ⟨Nat.zero_le _, Nat.zero_le _, rfl, _, _, _, _, hW_2, hF_2⟩
  intro ⟨i, p1, fi⟩ ⟨hI, hp1, hfl, le1, a1, b1, c1, hWi, hFi⟩ ih
  try dsimp only at hI hp1 hfl hWi hFi ih ⊢
  refine gx_aload_n (q := 0) C dX7_findFault_10 rfl ?_
  refine gx_callM C hD (k_X7_readOrder l hL hWi hn hn2 (by omega)) (isMS_in hWi 0 (Nat.le_of_ble_eq_true rfl)) (isMS_0 hWi) rfl (cwV 0 C.2.2.2.2.1 gX7_findFault_X7_readOrder rfl rfl rfl kdV_X7_readOrder ⟨Nat.le_of_ble_eq_true rfl, Nat.le_of_ble_eq_true rfl⟩) rfl rfl (Nat.le_of_ble_eq_true rfl) ⟨Nat.le_of_ble_eq_true rfl, Nat.le_of_ble_eq_true rfl⟩ dX7_findFault_11 (fun v_3 f_3 hp_3 => ?_)
  rcases hp_3 with ⟨a2_3, hc_3_0, hc_3_1, rfl, hW_3, hG_3⟩ | ⟨le2_3, a2_3, b2_3, c2_3, hc_3_0, rfl, hW_3, hG_3⟩
  · skip
    have hF_3 := gFr_tr hFi hG_3
    refine gx_nil ?_
    have hq_3_0 : (ordr (y.1 4) n p1).1 = true := hc_3_0
    have hq_3_1 : (¬ sg (y.1 4) n p1 = 112 → a2_3 = (ordr (y.1 4) n p1).2.2.1) := hc_3_1
    have hob := ordr_b _ _ _ hq_3_0
    refine gx_aload_n (q := 0) C dX7_findFault_14 rfl ?_
    refine gx_get C (i := 8) (isMS_in hW_3 0 (Nat.le_of_ble_eq_true rfl)) (isMS_0 hW_3) rfl in_X7_findFault_7 (by decide) fl_X7_findFault_186 rfl dX7_findFault_15 ?_
    refine gx_top (0) rfl ?_
    refine gx_if_eq (tgt := 26) C dX7_findFault_18 (by decide) (fun c_18 => ?_) (fun c_18 => ?_)
    refine gx_aload_n (q := 0) C dX7_findFault_26 rfl ?_
    refine gx_get C (i := 7) (isMS_in hW_3 0 (Nat.le_of_ble_eq_true rfl)) (isMS_0 hW_3) rfl in_X7_findFault_7 (by decide) fl_X7_findFault_183 rfl dX7_findFault_27 ?_
    refine gx_top (nI ((ordr (y.1 4) n p1).2.1)) rfl ?_
    refine gx_aload_n (q := 0) C dX7_findFault_30 rfl ?_
    refine gx_get C (i := 6) (isMS_in hW_3 0 (Nat.le_of_ble_eq_true rfl)) (isMS_0 hW_3) rfl in_X7_findFault_7 (by decide) fl_X7_findFault_175 rfl dX7_findFault_31 ?_
    refine gx_top (nI n) hn ?_
    refine gx_icmp_ne (tgt := 40) C dX7_findFault_34 (by decide) (fun c_34 => ?_) (fun c_34 => ?_)
    · skip
      have hne : ¬ (ordr (y.1 4) n p1).2.1 = n := fun z => c_34 (by rw [z])
      refine gx_aload_n (q := 0) C dX7_findFault_40 rfl ?_
      refine gx_aload_n (q := 0) C dX7_findFault_41 rfl ?_
      refine gx_callR C (k_X7_sign l hW_3 hn hn2 (by omega)) (isMS_in hW_3 0 (Nat.le_of_ble_eq_true rfl)) (isMS_0 hW_3) rfl (cwV 0 C.2.2.2.2.1 gX7_findFault_X7_sign rfl rfl rfl kdV_X7_sign ⟨Nat.le_of_ble_eq_true rfl, Nat.le_of_ble_eq_true rfl⟩) rfl rfl (Nat.le_of_ble_eq_true rfl) ⟨Nat.le_of_ble_eq_true rfl, Nat.le_of_ble_eq_true rfl⟩ dX7_findFault_42 ?_
      refine gx_bipush (v := 59) C dX7_findFault_45 (by decide) ?_
      refine gx_icmp_ne (tgt := 54) C dX7_findFault_47 (by decide) (fun c_47 => ?_) (fun c_47 => ?_)
      · skip
        refine gx_iconst (v := 0) C dX7_findFault_54 (by decide) ?_
        refine gx_callM C hD (k_X7_take0 l hL hW_3 hn hn2 (by omega) _ (bq := false) rfl) (isMS_in hW_3 0 (Nat.le_of_ble_eq_true rfl)) (isMS_0 hW_3) rfl (cwV 1 C.2.2.2.2.1 gX7_findFault_X7_take rfl rfl rfl kdV_X7_take ⟨Nat.le_of_ble_eq_true rfl, Nat.le_of_ble_eq_true rfl⟩) rfl rfl (Nat.le_of_ble_eq_true rfl) ⟨Nat.le_of_ble_eq_true rfl, Nat.le_of_ble_eq_true rfl⟩ dX7_findFault_55 (fun v_4 f_4 hp_4 => ?_)
        rcases hp_4 with ⟨hc_4_0, rfl, hW_4, hG_4⟩ | ⟨hc_4_0, rfl, hW_4, hG_4⟩
        · skip
          have hF_4 := gFr_tr hF_3 hG_4
          refine gx_nil ?_
          exact absurd hc_4_0 (by decide)
        · skip
          have hF_4 := gFr_tr hF_3 hG_4
          refine gx_nil ?_
          have hq_4_0 : false = false := hc_4_0
          refine gx_aload_n (q := 0) C dX7_findFault_58 rfl ?_
          refine gx_get C (i := 8) (isMS_in hW_4 0 (Nat.le_of_ble_eq_true rfl)) (isMS_0 hW_4) rfl in_X7_findFault_7 (by decide) fl_X7_findFault_186 rfl dX7_findFault_59 ?_
          refine gx_top (1) rfl ?_
          refine gx_if_eq (tgt := 10) C dX7_findFault_62 (by decide) (fun c_62 => ?_) (fun c_62 => ?_)
          exact absurd c_62 (by decide)
          refine gx_aload_n (q := 0) C dX7_findFault_65 rfl ?_
          refine gx_get C (i := 7) (isMS_in hW_4 0 (Nat.le_of_ble_eq_true rfl)) (isMS_0 hW_4) rfl in_X7_findFault_7 (by decide) fl_X7_findFault_183 rfl dX7_findFault_66 ?_
          refine gx_top (nI ((ordr (y.1 4) n p1).2.1)) rfl ?_
          have hv : flt (y.1 4) n 80 0 = nI ((ordr (y.1 4) n p1).2.1) := by rw [← hfl]; obtain ⟨r, hr3⟩ : ∃ r, 80 - i = r + 1 := ⟨79 - i, by omega⟩; rw [hr3]; exact (if_pos hq_3_0).trans ((if_neg hne).trans (if_neg c_47))
          exact gx_iretM C hr dX7_findFault_69 ⟨by rw [hv], _, mEq_C y _ _ _ _ _ _, fun z => absurd (hv.symm.trans z) (nI_n6 (by omega)), hW_4, hF_4⟩
      · skip
        refine gx_iconst (v := 1) C dX7_findFault_50 (by decide) ?_
        refine gx_goto (tgt := 55) C dX7_findFault_51 (by decide) ?_
        refine gx_callM C hD (k_X7_take0 l hL hW_3 hn hn2 (by omega) _ (bq := true) rfl) (isMS_in hW_3 0 (Nat.le_of_ble_eq_true rfl)) (isMS_0 hW_3) rfl (cwV 1 C.2.2.2.2.1 gX7_findFault_X7_take rfl rfl rfl kdV_X7_take ⟨Nat.le_of_ble_eq_true rfl, Nat.le_of_ble_eq_true rfl⟩) rfl rfl (Nat.le_of_ble_eq_true rfl) ⟨Nat.le_of_ble_eq_true rfl, Nat.le_of_ble_eq_true rfl⟩ dX7_findFault_55 (fun v_5 f_5 hp_5 => ?_)
        rcases hp_5 with ⟨hc_5_0, rfl, hW_5, hG_5⟩ | ⟨hc_5_0, rfl, hW_5, hG_5⟩
        · skip
          have hF_5 := gFr_tr hF_3 hG_5
          refine gx_nil ?_
          have hq_5_0 : true = true := hc_5_0
          refine gx_aload_n (q := 0) C dX7_findFault_58 rfl ?_
          refine gx_get C (i := 8) (isMS_in hW_5 0 (Nat.le_of_ble_eq_true rfl)) (isMS_0 hW_5) rfl in_X7_findFault_7 (by decide) fl_X7_findFault_186 rfl dX7_findFault_59 ?_
          refine gx_top (0) rfl ?_
          refine gx_if_eq (tgt := 10) C dX7_findFault_62 (by decide) (fun c_62 => ?_) (fun c_62 => ?_)
          have hb3 := ordr_b _ _ _ hq_3_0
          have hb4 := sg_ne c_47 (by decide)
          obtain ⟨r, hr3⟩ : ∃ r, 80 - i = r + 1 := ⟨79 - i, by omega⟩
          have hfl2 : flt (y.1 4) n r ((ordr (y.1 4) n p1).2.1 + 1) = flt (y.1 4) n 80 0 := by rw [← hfl, hr3]; exact ((if_pos hq_3_0).trans ((if_neg hne).trans (if_pos c_47))).symm
          exact gx_back [0] (ih (i + 1, (ordr (y.1 4) n p1).2.1 + 1, _) ⟨by show 2 * (i + 1) ≤ (ordr (y.1 4) n p1).2.1 + 1; omega, by show (ordr (y.1 4) n p1).2.1 + 1 ≤ n; omega, by show flt (y.1 4) n (80 - (i + 1)) _ = _; rw [show 80 - (i + 1) = r by omega]; exact hfl2, _, _, _, _, hW_5, hF_5⟩ (by show 80 - (i + 1) < 80 - i; omega)) rfl rfl
          exact absurd (by decide) c_62
        · skip
          have hF_5 := gFr_tr hF_3 hG_5
          refine gx_nil ?_
          exact absurd hc_5_0 (by decide)
    · skip
      have hb5 := ordr_b _ _ _ hq_3_0
      have heq : (ordr (y.1 4) n p1).2.1 = n := (nI_eq (by omega) (by omega)).mp c_34
      refine gx_bipush (v := (-6)) C dX7_findFault_37 (by decide) ?_
      have hv : flt (y.1 4) n 80 0 = -6 := by rw [← hfl]; obtain ⟨r, hr3⟩ : ∃ r, 80 - i = r + 1 := ⟨79 - i, by omega⟩; rw [hr3]; exact (if_pos hq_3_0).trans (if_pos heq)
      exact gx_iretM C hr dX7_findFault_39 ⟨by rw [hv], _, mEq_C y _ _ _ _ _ _, fun _ => rfl, hW_3, hF_3⟩
    exact absurd (by decide) c_18
  · skip
    have hF_3 := gFr_tr hFi hG_3
    refine gx_nil ?_
    have hq_3_0 : (ordr (y.1 4) n p1).1 = false := hc_3_0
    have hob := ordr_5 (y.1 4) n p1
    refine gx_aload_n (q := 0) C dX7_findFault_14 rfl ?_
    refine gx_get C (i := 8) (isMS_in hW_3 0 (Nat.le_of_ble_eq_true rfl)) (isMS_0 hW_3) rfl in_X7_findFault_7 (by decide) fl_X7_findFault_186 rfl dX7_findFault_15 ?_
    refine gx_top (1) rfl ?_
    refine gx_if_eq (tgt := 26) C dX7_findFault_18 (by decide) (fun c_18 => ?_) (fun c_18 => ?_)
    exact absurd c_18 (by decide)
    refine gx_aload_n (q := 0) C dX7_findFault_21 rfl ?_
    refine gx_get C (i := 7) (isMS_in hW_3 0 (Nat.le_of_ble_eq_true rfl)) (isMS_0 hW_3) rfl in_X7_findFault_7 (by decide) fl_X7_findFault_183 rfl dX7_findFault_22 ?_
    refine gx_top (nI ((ordr (y.1 4) n p1).2.1)) rfl ?_
    have hv : flt (y.1 4) n 80 0 = nI ((ordr (y.1 4) n p1).2.1) := by rw [← hfl]; obtain ⟨r, hr3⟩ : ∃ r, 80 - i = r + 1 := ⟨79 - i, by omega⟩; rw [hr3]; exact if_neg (bF hq_3_0)
    exact gx_iretM C hr dX7_findFault_25 ⟨by rw [hv], _, mEq_C y _ _ _ _ _ _, fun z => absurd (hv.symm.trans z) (nI_n6 (by omega)), hW_3, hF_3⟩
theorem kdN_X7_fault : yX7_fault.cls ≠ "java/lang/invoke/MethodHandle" ∧ yX7_fault.cls ≠ "java/lang/invoke/VarHandle" ∧ (parseMethodDescriptor yX7_fault.desc).map (fun d => d.parameters.length) = some 0 := by decide +kernel
theorem kdV_X7_fault : yX7_fault.cls = RX7 ∧ yX7_fault.cls ≠ "java/lang/invoke/MethodHandle" ∧ yX7_fault.cls ≠ "java/lang/invoke/VarHandle" ∧ (parseMethodDescriptor yX7_fault.desc).map (fun d => d.parameters.length) = some 0 := ⟨rfl, kdN_X7_fault⟩
abbrev rmX7_fault : Room := { frames := 5, cells := 0, slots := 0, locals := 104 }
set_option maxHeartbeats 4000000 in
set_option maxRecDepth 100000 in
theorem k_X7_fault (l : Launch) {k : gK} {L : List Nat} {f : Nat → va_E} (hL : L.Nodup) {o : Nat → Nat} {y : MS} (hW : isMS k L f o y) {n : Nat} (hn : y.2 1 = nI n) (hn2 : n ≤ 80)  : kM l k L f yX7_fault wsX7_fault rmX7_fault [.ref (o 0)] (fun v2 f2 => v2 = some (.int (flt (y.1 4) n 80 0)) ∧ ∃ y2, mEq y y2 ∧ (flt (y.1 4) n 80 0 = -6 → y2.2 3 = 0) ∧ isMS k L f2 o y2 ∧ gFr o 6 f f2) := by
  refine kM_of (cc := cX7_fault) (maxL := 1) (ret := (some .int)) (by decide) rfl (Nat.le_of_ble_eq_true rfl) ?_
  intro p e s m args below meth c C hr
  have hD : gD (fun q => q ∈ L) L := ⟨hL, fun _ h => h⟩
  refine gx_lv [(0, _)] [0] rfl ?_
  refine gx_aload_n (q := 0) C dX7_fault_0 rfl ?_
  refine gx_callM C hD (k_X7_findFault l hL hW hn hn2) (isMS_in hW 0 (Nat.le_of_ble_eq_true rfl)) (isMS_0 hW) rfl (cwV 0 C.2.2.2.2.1 gX7_fault_X7_findFault rfl rfl rfl kdV_X7_findFault ⟨Nat.le_of_ble_eq_true rfl, Nat.le_of_ble_eq_true rfl⟩) rfl rfl (Nat.le_of_ble_eq_true rfl) ⟨Nat.le_of_ble_eq_true rfl, Nat.le_of_ble_eq_true rfl⟩ dX7_fault_1 (fun v_1 f_1 hp_1 => ?_)
  obtain ⟨rfl, y2, hE, hwr, hW_1, hG_1⟩ := hp_1
  refine gx_cons ?_
  exact gx_iretM C hr dX7_fault_4 ⟨rfl, y2, hE, hwr, hW_1, (gFr_tr (gFr_rf (f := f)) hG_1)⟩
theorem kdN_X7_noOrder : yX7_noOrder.cls ≠ "java/lang/invoke/MethodHandle" ∧ yX7_noOrder.cls ≠ "java/lang/invoke/VarHandle" ∧ (parseMethodDescriptor yX7_noOrder.desc).map (fun d => d.parameters.length) = some 0 := by decide +kernel
theorem kdV_X7_noOrder : yX7_noOrder.cls = RX7 ∧ yX7_noOrder.cls ≠ "java/lang/invoke/MethodHandle" ∧ yX7_noOrder.cls ≠ "java/lang/invoke/VarHandle" ∧ (parseMethodDescriptor yX7_noOrder.desc).map (fun d => d.parameters.length) = some 0 := ⟨rfl, kdN_X7_noOrder⟩
def vX7_noOrder (y : MS)  (kd a0 b0 c0 : Int32) : Int32 := (if kd = 98 then (vX7_noBook y a0 b0 c0) else (if kd = 99 then (vX7_noTakeHome y a0) else (if kd = 100 then (vX7_noTakeHome y a0) else (if kd = 101 then (vX7_noTakeHome y a0) else (if kd = 102 then (vX7_noFire y a0) else (if kd = 103 then (vX7_noGlaze y a0 b0) else (if kd = 104 then (vX7_noTakeHome y a0) else (if kd = 105 then (vX7_noTakeHome y a0) else (if kd = 106 then (vX7_noTakeHome y a0) else (if kd = 107 then (vX7_noTakeHome y a0) else (if kd = 108 then (vX7_noLoad y a0) else (if kd = 109 then (vX7_noTakeHome y a0) else (if kd = 110 then (vX7_noPass y a0) else (if kd = 111 then (vX7_noTakeHome y a0) else (if kd = 112 then (vX7_noPupil y ) else (if kd = 113 then (vX7_noTakeHome y a0) else (if kd = 114 then (vX7_noTakeHome y a0) else (if kd = 115 then (vX7_noTakeHome y a0) else (if kd = 116 then (vX7_noThrow y a0 b0) else (vX7_noTakeHome y a0))))))))))))))))))))
theorem in_X7_noOrder_7 : ∀ w ∈ u_ws RX7 TX7 13, w ∈ wsX7_noOrder := by decide +kernel
theorem fl_X7_noOrder_200 : Cond.fieldLink RX7 200 (TX7 9).1 (TX7 9).2.1 (TX7 9).2.2.1 ∈ wsX7_noOrder := by decide +kernel
theorem fl_X7_noOrder_212 : Cond.fieldLink RX7 212 (TX7 10).1 (TX7 10).2.1 (TX7 10).2.2.1 ∈ wsX7_noOrder := by decide +kernel
theorem fl_X7_noOrder_203 : Cond.fieldLink RX7 203 (TX7 11).1 (TX7 11).2.1 (TX7 11).2.2.1 ∈ wsX7_noOrder := by decide +kernel
theorem fl_X7_noOrder_206 : Cond.fieldLink RX7 206 (TX7 12).1 (TX7 12).2.1 (TX7 12).2.2.1 ∈ wsX7_noOrder := by decide +kernel
abbrev rmX7_noOrder : Room := { frames := 4, cells := 0, slots := 0, locals := 93 }
set_option maxHeartbeats 4000000 in
set_option maxRecDepth 100000 in
theorem k_X7_noOrder (l : Launch) {k : gK} {L : List Nat} {f : Nat → va_E} {o : Nat → Nat} {y : MS} (hW : isMS k L f o y) (hM : mOK y) (hQ : mQK y)  {kd a0 b0 c0 : Int32} (h4 : y.2 4 = kd) (h5 : y.2 5 = a0) (h6 : y.2 6 = b0) (h7 : y.2 7 = c0) : kR l k L f yX7_noOrder wsX7_noOrder rmX7_noOrder [.ref (o 0)] (.int (vX7_noOrder y kd a0 b0 c0)) := by
  refine kR_of (cc := cX7_noOrder) (maxL := 1) (ret := (some .int)) (by decide) rfl (Nat.le_of_ble_eq_true rfl) ?_
  intro p e s m args below meth c C hr
  refine gx_lv [(0, _)] [0] rfl ?_
  refine gx_aload_n (q := 0) C dX7_noOrder_0 rfl ?_
  refine gx_get C (i := 9) (isMS_in hW 0 (Nat.le_of_ble_eq_true rfl)) (isMS_0 hW) rfl in_X7_noOrder_7 (by decide) fl_X7_noOrder_200 rfl dX7_noOrder_1 ?_
  refine gx_top kd h4 ?_
  refine gsw_split 98 116 kd ?_ ?_
  · intro sw_4
    refine gx_tableOut (tgt := 171) C dX7_noOrder_4 sw_4 (by decide) ?_
    have n4_98 : ¬ kd = 98 := gsw_ne sw_4 (by decide)
    have n4_99 : ¬ kd = 99 := gsw_ne sw_4 (by decide)
    have n4_100 : ¬ kd = 100 := gsw_ne sw_4 (by decide)
    have n4_101 : ¬ kd = 101 := gsw_ne sw_4 (by decide)
    have n4_102 : ¬ kd = 102 := gsw_ne sw_4 (by decide)
    have n4_103 : ¬ kd = 103 := gsw_ne sw_4 (by decide)
    have n4_104 : ¬ kd = 104 := gsw_ne sw_4 (by decide)
    have n4_105 : ¬ kd = 105 := gsw_ne sw_4 (by decide)
    have n4_106 : ¬ kd = 106 := gsw_ne sw_4 (by decide)
    have n4_107 : ¬ kd = 107 := gsw_ne sw_4 (by decide)
    have n4_108 : ¬ kd = 108 := gsw_ne sw_4 (by decide)
    have n4_109 : ¬ kd = 109 := gsw_ne sw_4 (by decide)
    have n4_110 : ¬ kd = 110 := gsw_ne sw_4 (by decide)
    have n4_111 : ¬ kd = 111 := gsw_ne sw_4 (by decide)
    have n4_112 : ¬ kd = 112 := gsw_ne sw_4 (by decide)
    have n4_113 : ¬ kd = 113 := gsw_ne sw_4 (by decide)
    have n4_114 : ¬ kd = 114 := gsw_ne sw_4 (by decide)
    have n4_115 : ¬ kd = 115 := gsw_ne sw_4 (by decide)
    have n4_116 : ¬ kd = 116 := gsw_ne sw_4 (by decide)
    refine gx_aload_n (q := 0) C dX7_noOrder_171 rfl ?_
    refine gx_aload_n (q := 0) C dX7_noOrder_172 rfl ?_
    refine gx_get C (i := 10) (isMS_in hW 0 (Nat.le_of_ble_eq_true rfl)) (isMS_0 hW) rfl in_X7_noOrder_7 (by decide) fl_X7_noOrder_212 rfl dX7_noOrder_173 ?_
    refine gx_top a0 h5 ?_
    refine gx_callR C (k_X7_noTakeHome l hW hM _) (isMS_in hW 0 (Nat.le_of_ble_eq_true rfl)) (isMS_0 hW) rfl (cwV 1 C.2.2.2.2.1 gX7_noOrder_X7_noTakeHome rfl rfl rfl kdV_X7_noTakeHome ⟨Nat.le_of_ble_eq_true rfl, Nat.le_of_ble_eq_true rfl⟩) rfl rfl (Nat.le_of_ble_eq_true rfl) ⟨Nat.le_of_ble_eq_true rfl, Nat.le_of_ble_eq_true rfl⟩ dX7_noOrder_176 ?_
    exact gx_iretR C rfl hr dX7_noOrder_179 (congrArg Value.int ((if_neg n4_98).trans ((if_neg n4_99).trans ((if_neg n4_100).trans ((if_neg n4_101).trans ((if_neg n4_102).trans ((if_neg n4_103).trans ((if_neg n4_104).trans ((if_neg n4_105).trans ((if_neg n4_106).trans ((if_neg n4_107).trans ((if_neg n4_108).trans ((if_neg n4_109).trans ((if_neg n4_110).trans ((if_neg n4_111).trans ((if_neg n4_112).trans ((if_neg n4_113).trans ((if_neg n4_114).trans ((if_neg n4_115).trans ((if_neg n4_116).trans (rfl)))))))))))))))))))).symm)
  · intro j hj1 hj2 sw_4
    obtain rfl | rfl | rfl | rfl | rfl | rfl | rfl | rfl | rfl | rfl | rfl | rfl | rfl | rfl | rfl | rfl | rfl | rfl | rfl : j = 98 ∨ j = 99 ∨ j = 100 ∨ j = 101 ∨ j = 102 ∨ j = 103 ∨ j = 104 ∨ j = 105 ∨ j = 106 ∨ j = 107 ∨ j = 108 ∨ j = 109 ∨ j = 110 ∨ j = 111 ∨ j = 112 ∨ j = 113 ∨ j = 114 ∨ j = 115 ∨ j = 116 := by omega
    · skip
      refine gx_tableIn (off := 97) (tgt := 101) C dX7_noOrder_4 (by rw [sw_4]; decide) (by rw [sw_4]; decide) (by rw [sw_4]; rfl) (by decide) ?_
      have e4_98 : kd = 98 := gsw_eq sw_4 (by decide)
      refine gx_aload_n (q := 0) C dX7_noOrder_101 rfl ?_
      refine gx_aload_n (q := 0) C dX7_noOrder_102 rfl ?_
      refine gx_get C (i := 10) (isMS_in hW 0 (Nat.le_of_ble_eq_true rfl)) (isMS_0 hW) rfl in_X7_noOrder_7 (by decide) fl_X7_noOrder_212 rfl dX7_noOrder_103 ?_
      refine gx_top a0 h5 ?_
      refine gx_aload_n (q := 0) C dX7_noOrder_106 rfl ?_
      refine gx_get C (i := 11) (isMS_in hW 0 (Nat.le_of_ble_eq_true rfl)) (isMS_0 hW) rfl in_X7_noOrder_7 (by decide) fl_X7_noOrder_203 rfl dX7_noOrder_107 ?_
      refine gx_top b0 h6 ?_
      refine gx_aload_n (q := 0) C dX7_noOrder_110 rfl ?_
      refine gx_get C (i := 12) (isMS_in hW 0 (Nat.le_of_ble_eq_true rfl)) (isMS_0 hW) rfl in_X7_noOrder_7 (by decide) fl_X7_noOrder_206 rfl dX7_noOrder_111 ?_
      refine gx_top c0 h7 ?_
      refine gx_callR C (k_X7_noBook l hW _ _ _) (isMS_in hW 0 (Nat.le_of_ble_eq_true rfl)) (isMS_0 hW) rfl (cwV 3 C.2.2.2.2.1 gX7_noOrder_X7_noBook rfl rfl rfl kdV_X7_noBook ⟨Nat.le_of_ble_eq_true rfl, Nat.le_of_ble_eq_true rfl⟩) rfl rfl (Nat.le_of_ble_eq_true rfl) ⟨Nat.le_of_ble_eq_true rfl, Nat.le_of_ble_eq_true rfl⟩ dX7_noOrder_114 ?_
      exact gx_iretR C rfl hr dX7_noOrder_117 (congrArg Value.int ((if_pos e4_98).trans (rfl)).symm)
    · skip
      refine gx_tableIn (off := 167) (tgt := 171) C dX7_noOrder_4 (by rw [sw_4]; decide) (by rw [sw_4]; decide) (by rw [sw_4]; rfl) (by decide) ?_
      have e4_99 : kd = 99 := gsw_eq sw_4 (by decide)
      have n4_98 : ¬ kd = 98 := gsw_n2 e4_99 (by decide)
      refine gx_aload_n (q := 0) C dX7_noOrder_171 rfl ?_
      refine gx_aload_n (q := 0) C dX7_noOrder_172 rfl ?_
      refine gx_get C (i := 10) (isMS_in hW 0 (Nat.le_of_ble_eq_true rfl)) (isMS_0 hW) rfl in_X7_noOrder_7 (by decide) fl_X7_noOrder_212 rfl dX7_noOrder_173 ?_
      refine gx_top a0 h5 ?_
      refine gx_callR C (k_X7_noTakeHome l hW hM _) (isMS_in hW 0 (Nat.le_of_ble_eq_true rfl)) (isMS_0 hW) rfl (cwV 1 C.2.2.2.2.1 gX7_noOrder_X7_noTakeHome rfl rfl rfl kdV_X7_noTakeHome ⟨Nat.le_of_ble_eq_true rfl, Nat.le_of_ble_eq_true rfl⟩) rfl rfl (Nat.le_of_ble_eq_true rfl) ⟨Nat.le_of_ble_eq_true rfl, Nat.le_of_ble_eq_true rfl⟩ dX7_noOrder_176 ?_
      exact gx_iretR C rfl hr dX7_noOrder_179 (congrArg Value.int ((if_neg n4_98).trans ((if_pos e4_99).trans (rfl))).symm)
    · skip
      refine gx_tableIn (off := 167) (tgt := 171) C dX7_noOrder_4 (by rw [sw_4]; decide) (by rw [sw_4]; decide) (by rw [sw_4]; rfl) (by decide) ?_
      have e4_100 : kd = 100 := gsw_eq sw_4 (by decide)
      have n4_98 : ¬ kd = 98 := gsw_n2 e4_100 (by decide)
      have n4_99 : ¬ kd = 99 := gsw_n2 e4_100 (by decide)
      refine gx_aload_n (q := 0) C dX7_noOrder_171 rfl ?_
      refine gx_aload_n (q := 0) C dX7_noOrder_172 rfl ?_
      refine gx_get C (i := 10) (isMS_in hW 0 (Nat.le_of_ble_eq_true rfl)) (isMS_0 hW) rfl in_X7_noOrder_7 (by decide) fl_X7_noOrder_212 rfl dX7_noOrder_173 ?_
      refine gx_top a0 h5 ?_
      refine gx_callR C (k_X7_noTakeHome l hW hM _) (isMS_in hW 0 (Nat.le_of_ble_eq_true rfl)) (isMS_0 hW) rfl (cwV 1 C.2.2.2.2.1 gX7_noOrder_X7_noTakeHome rfl rfl rfl kdV_X7_noTakeHome ⟨Nat.le_of_ble_eq_true rfl, Nat.le_of_ble_eq_true rfl⟩) rfl rfl (Nat.le_of_ble_eq_true rfl) ⟨Nat.le_of_ble_eq_true rfl, Nat.le_of_ble_eq_true rfl⟩ dX7_noOrder_176 ?_
      exact gx_iretR C rfl hr dX7_noOrder_179 (congrArg Value.int ((if_neg n4_98).trans ((if_neg n4_99).trans ((if_pos e4_100).trans (rfl)))).symm)
    · skip
      refine gx_tableIn (off := 167) (tgt := 171) C dX7_noOrder_4 (by rw [sw_4]; decide) (by rw [sw_4]; decide) (by rw [sw_4]; rfl) (by decide) ?_
      have e4_101 : kd = 101 := gsw_eq sw_4 (by decide)
      have n4_98 : ¬ kd = 98 := gsw_n2 e4_101 (by decide)
      have n4_99 : ¬ kd = 99 := gsw_n2 e4_101 (by decide)
      have n4_100 : ¬ kd = 100 := gsw_n2 e4_101 (by decide)
      refine gx_aload_n (q := 0) C dX7_noOrder_171 rfl ?_
      refine gx_aload_n (q := 0) C dX7_noOrder_172 rfl ?_
      refine gx_get C (i := 10) (isMS_in hW 0 (Nat.le_of_ble_eq_true rfl)) (isMS_0 hW) rfl in_X7_noOrder_7 (by decide) fl_X7_noOrder_212 rfl dX7_noOrder_173 ?_
      refine gx_top a0 h5 ?_
      refine gx_callR C (k_X7_noTakeHome l hW hM _) (isMS_in hW 0 (Nat.le_of_ble_eq_true rfl)) (isMS_0 hW) rfl (cwV 1 C.2.2.2.2.1 gX7_noOrder_X7_noTakeHome rfl rfl rfl kdV_X7_noTakeHome ⟨Nat.le_of_ble_eq_true rfl, Nat.le_of_ble_eq_true rfl⟩) rfl rfl (Nat.le_of_ble_eq_true rfl) ⟨Nat.le_of_ble_eq_true rfl, Nat.le_of_ble_eq_true rfl⟩ dX7_noOrder_176 ?_
      exact gx_iretR C rfl hr dX7_noOrder_179 (congrArg Value.int ((if_neg n4_98).trans ((if_neg n4_99).trans ((if_neg n4_100).trans ((if_pos e4_101).trans (rfl))))).symm)
    · skip
      refine gx_tableIn (off := 136) (tgt := 140) C dX7_noOrder_4 (by rw [sw_4]; decide) (by rw [sw_4]; decide) (by rw [sw_4]; rfl) (by decide) ?_
      have e4_102 : kd = 102 := gsw_eq sw_4 (by decide)
      have n4_98 : ¬ kd = 98 := gsw_n2 e4_102 (by decide)
      have n4_99 : ¬ kd = 99 := gsw_n2 e4_102 (by decide)
      have n4_100 : ¬ kd = 100 := gsw_n2 e4_102 (by decide)
      have n4_101 : ¬ kd = 101 := gsw_n2 e4_102 (by decide)
      refine gx_aload_n (q := 0) C dX7_noOrder_140 rfl ?_
      refine gx_aload_n (q := 0) C dX7_noOrder_141 rfl ?_
      refine gx_get C (i := 10) (isMS_in hW 0 (Nat.le_of_ble_eq_true rfl)) (isMS_0 hW) rfl in_X7_noOrder_7 (by decide) fl_X7_noOrder_212 rfl dX7_noOrder_142 ?_
      refine gx_top a0 h5 ?_
      refine gx_callR C (k_X7_noFire l hW hM _) (isMS_in hW 0 (Nat.le_of_ble_eq_true rfl)) (isMS_0 hW) rfl (cwV 1 C.2.2.2.2.1 gX7_noOrder_X7_noFire rfl rfl rfl kdV_X7_noFire ⟨Nat.le_of_ble_eq_true rfl, Nat.le_of_ble_eq_true rfl⟩) rfl rfl (Nat.le_of_ble_eq_true rfl) ⟨Nat.le_of_ble_eq_true rfl, Nat.le_of_ble_eq_true rfl⟩ dX7_noOrder_145 ?_
      exact gx_iretR C rfl hr dX7_noOrder_148 (congrArg Value.int ((if_neg n4_98).trans ((if_neg n4_99).trans ((if_neg n4_100).trans ((if_neg n4_101).trans ((if_pos e4_102).trans (rfl)))))).symm)
    · skip
      refine gx_tableIn (off := 145) (tgt := 149) C dX7_noOrder_4 (by rw [sw_4]; decide) (by rw [sw_4]; decide) (by rw [sw_4]; rfl) (by decide) ?_
      have e4_103 : kd = 103 := gsw_eq sw_4 (by decide)
      have n4_98 : ¬ kd = 98 := gsw_n2 e4_103 (by decide)
      have n4_99 : ¬ kd = 99 := gsw_n2 e4_103 (by decide)
      have n4_100 : ¬ kd = 100 := gsw_n2 e4_103 (by decide)
      have n4_101 : ¬ kd = 101 := gsw_n2 e4_103 (by decide)
      have n4_102 : ¬ kd = 102 := gsw_n2 e4_103 (by decide)
      refine gx_aload_n (q := 0) C dX7_noOrder_149 rfl ?_
      refine gx_aload_n (q := 0) C dX7_noOrder_150 rfl ?_
      refine gx_get C (i := 10) (isMS_in hW 0 (Nat.le_of_ble_eq_true rfl)) (isMS_0 hW) rfl in_X7_noOrder_7 (by decide) fl_X7_noOrder_212 rfl dX7_noOrder_151 ?_
      refine gx_top a0 h5 ?_
      refine gx_aload_n (q := 0) C dX7_noOrder_154 rfl ?_
      refine gx_get C (i := 11) (isMS_in hW 0 (Nat.le_of_ble_eq_true rfl)) (isMS_0 hW) rfl in_X7_noOrder_7 (by decide) fl_X7_noOrder_203 rfl dX7_noOrder_155 ?_
      refine gx_top b0 h6 ?_
      refine gx_callR C (k_X7_noGlaze l hW hM _ _) (isMS_in hW 0 (Nat.le_of_ble_eq_true rfl)) (isMS_0 hW) rfl (cwV 2 C.2.2.2.2.1 gX7_noOrder_X7_noGlaze rfl rfl rfl kdV_X7_noGlaze ⟨Nat.le_of_ble_eq_true rfl, Nat.le_of_ble_eq_true rfl⟩) rfl rfl (Nat.le_of_ble_eq_true rfl) ⟨Nat.le_of_ble_eq_true rfl, Nat.le_of_ble_eq_true rfl⟩ dX7_noOrder_158 ?_
      exact gx_iretR C rfl hr dX7_noOrder_161 (congrArg Value.int ((if_neg n4_98).trans ((if_neg n4_99).trans ((if_neg n4_100).trans ((if_neg n4_101).trans ((if_neg n4_102).trans ((if_pos e4_103).trans (rfl))))))).symm)
    · skip
      refine gx_tableIn (off := 167) (tgt := 171) C dX7_noOrder_4 (by rw [sw_4]; decide) (by rw [sw_4]; decide) (by rw [sw_4]; rfl) (by decide) ?_
      have e4_104 : kd = 104 := gsw_eq sw_4 (by decide)
      have n4_98 : ¬ kd = 98 := gsw_n2 e4_104 (by decide)
      have n4_99 : ¬ kd = 99 := gsw_n2 e4_104 (by decide)
      have n4_100 : ¬ kd = 100 := gsw_n2 e4_104 (by decide)
      have n4_101 : ¬ kd = 101 := gsw_n2 e4_104 (by decide)
      have n4_102 : ¬ kd = 102 := gsw_n2 e4_104 (by decide)
      have n4_103 : ¬ kd = 103 := gsw_n2 e4_104 (by decide)
      refine gx_aload_n (q := 0) C dX7_noOrder_171 rfl ?_
      refine gx_aload_n (q := 0) C dX7_noOrder_172 rfl ?_
      refine gx_get C (i := 10) (isMS_in hW 0 (Nat.le_of_ble_eq_true rfl)) (isMS_0 hW) rfl in_X7_noOrder_7 (by decide) fl_X7_noOrder_212 rfl dX7_noOrder_173 ?_
      refine gx_top a0 h5 ?_
      refine gx_callR C (k_X7_noTakeHome l hW hM _) (isMS_in hW 0 (Nat.le_of_ble_eq_true rfl)) (isMS_0 hW) rfl (cwV 1 C.2.2.2.2.1 gX7_noOrder_X7_noTakeHome rfl rfl rfl kdV_X7_noTakeHome ⟨Nat.le_of_ble_eq_true rfl, Nat.le_of_ble_eq_true rfl⟩) rfl rfl (Nat.le_of_ble_eq_true rfl) ⟨Nat.le_of_ble_eq_true rfl, Nat.le_of_ble_eq_true rfl⟩ dX7_noOrder_176 ?_
      exact gx_iretR C rfl hr dX7_noOrder_179 (congrArg Value.int ((if_neg n4_98).trans ((if_neg n4_99).trans ((if_neg n4_100).trans ((if_neg n4_101).trans ((if_neg n4_102).trans ((if_neg n4_103).trans ((if_pos e4_104).trans (rfl)))))))).symm)
    · skip
      refine gx_tableIn (off := 167) (tgt := 171) C dX7_noOrder_4 (by rw [sw_4]; decide) (by rw [sw_4]; decide) (by rw [sw_4]; rfl) (by decide) ?_
      have e4_105 : kd = 105 := gsw_eq sw_4 (by decide)
      have n4_98 : ¬ kd = 98 := gsw_n2 e4_105 (by decide)
      have n4_99 : ¬ kd = 99 := gsw_n2 e4_105 (by decide)
      have n4_100 : ¬ kd = 100 := gsw_n2 e4_105 (by decide)
      have n4_101 : ¬ kd = 101 := gsw_n2 e4_105 (by decide)
      have n4_102 : ¬ kd = 102 := gsw_n2 e4_105 (by decide)
      have n4_103 : ¬ kd = 103 := gsw_n2 e4_105 (by decide)
      have n4_104 : ¬ kd = 104 := gsw_n2 e4_105 (by decide)
      refine gx_aload_n (q := 0) C dX7_noOrder_171 rfl ?_
      refine gx_aload_n (q := 0) C dX7_noOrder_172 rfl ?_
      refine gx_get C (i := 10) (isMS_in hW 0 (Nat.le_of_ble_eq_true rfl)) (isMS_0 hW) rfl in_X7_noOrder_7 (by decide) fl_X7_noOrder_212 rfl dX7_noOrder_173 ?_
      refine gx_top a0 h5 ?_
      refine gx_callR C (k_X7_noTakeHome l hW hM _) (isMS_in hW 0 (Nat.le_of_ble_eq_true rfl)) (isMS_0 hW) rfl (cwV 1 C.2.2.2.2.1 gX7_noOrder_X7_noTakeHome rfl rfl rfl kdV_X7_noTakeHome ⟨Nat.le_of_ble_eq_true rfl, Nat.le_of_ble_eq_true rfl⟩) rfl rfl (Nat.le_of_ble_eq_true rfl) ⟨Nat.le_of_ble_eq_true rfl, Nat.le_of_ble_eq_true rfl⟩ dX7_noOrder_176 ?_
      exact gx_iretR C rfl hr dX7_noOrder_179 (congrArg Value.int ((if_neg n4_98).trans ((if_neg n4_99).trans ((if_neg n4_100).trans ((if_neg n4_101).trans ((if_neg n4_102).trans ((if_neg n4_103).trans ((if_neg n4_104).trans ((if_pos e4_105).trans (rfl))))))))).symm)
    · skip
      refine gx_tableIn (off := 167) (tgt := 171) C dX7_noOrder_4 (by rw [sw_4]; decide) (by rw [sw_4]; decide) (by rw [sw_4]; rfl) (by decide) ?_
      have e4_106 : kd = 106 := gsw_eq sw_4 (by decide)
      have n4_98 : ¬ kd = 98 := gsw_n2 e4_106 (by decide)
      have n4_99 : ¬ kd = 99 := gsw_n2 e4_106 (by decide)
      have n4_100 : ¬ kd = 100 := gsw_n2 e4_106 (by decide)
      have n4_101 : ¬ kd = 101 := gsw_n2 e4_106 (by decide)
      have n4_102 : ¬ kd = 102 := gsw_n2 e4_106 (by decide)
      have n4_103 : ¬ kd = 103 := gsw_n2 e4_106 (by decide)
      have n4_104 : ¬ kd = 104 := gsw_n2 e4_106 (by decide)
      have n4_105 : ¬ kd = 105 := gsw_n2 e4_106 (by decide)
      refine gx_aload_n (q := 0) C dX7_noOrder_171 rfl ?_
      refine gx_aload_n (q := 0) C dX7_noOrder_172 rfl ?_
      refine gx_get C (i := 10) (isMS_in hW 0 (Nat.le_of_ble_eq_true rfl)) (isMS_0 hW) rfl in_X7_noOrder_7 (by decide) fl_X7_noOrder_212 rfl dX7_noOrder_173 ?_
      refine gx_top a0 h5 ?_
      refine gx_callR C (k_X7_noTakeHome l hW hM _) (isMS_in hW 0 (Nat.le_of_ble_eq_true rfl)) (isMS_0 hW) rfl (cwV 1 C.2.2.2.2.1 gX7_noOrder_X7_noTakeHome rfl rfl rfl kdV_X7_noTakeHome ⟨Nat.le_of_ble_eq_true rfl, Nat.le_of_ble_eq_true rfl⟩) rfl rfl (Nat.le_of_ble_eq_true rfl) ⟨Nat.le_of_ble_eq_true rfl, Nat.le_of_ble_eq_true rfl⟩ dX7_noOrder_176 ?_
      exact gx_iretR C rfl hr dX7_noOrder_179 (congrArg Value.int ((if_neg n4_98).trans ((if_neg n4_99).trans ((if_neg n4_100).trans ((if_neg n4_101).trans ((if_neg n4_102).trans ((if_neg n4_103).trans ((if_neg n4_104).trans ((if_neg n4_105).trans ((if_pos e4_106).trans (rfl)))))))))).symm)
    · skip
      refine gx_tableIn (off := 167) (tgt := 171) C dX7_noOrder_4 (by rw [sw_4]; decide) (by rw [sw_4]; decide) (by rw [sw_4]; rfl) (by decide) ?_
      have e4_107 : kd = 107 := gsw_eq sw_4 (by decide)
      have n4_98 : ¬ kd = 98 := gsw_n2 e4_107 (by decide)
      have n4_99 : ¬ kd = 99 := gsw_n2 e4_107 (by decide)
      have n4_100 : ¬ kd = 100 := gsw_n2 e4_107 (by decide)
      have n4_101 : ¬ kd = 101 := gsw_n2 e4_107 (by decide)
      have n4_102 : ¬ kd = 102 := gsw_n2 e4_107 (by decide)
      have n4_103 : ¬ kd = 103 := gsw_n2 e4_107 (by decide)
      have n4_104 : ¬ kd = 104 := gsw_n2 e4_107 (by decide)
      have n4_105 : ¬ kd = 105 := gsw_n2 e4_107 (by decide)
      have n4_106 : ¬ kd = 106 := gsw_n2 e4_107 (by decide)
      refine gx_aload_n (q := 0) C dX7_noOrder_171 rfl ?_
      refine gx_aload_n (q := 0) C dX7_noOrder_172 rfl ?_
      refine gx_get C (i := 10) (isMS_in hW 0 (Nat.le_of_ble_eq_true rfl)) (isMS_0 hW) rfl in_X7_noOrder_7 (by decide) fl_X7_noOrder_212 rfl dX7_noOrder_173 ?_
      refine gx_top a0 h5 ?_
      refine gx_callR C (k_X7_noTakeHome l hW hM _) (isMS_in hW 0 (Nat.le_of_ble_eq_true rfl)) (isMS_0 hW) rfl (cwV 1 C.2.2.2.2.1 gX7_noOrder_X7_noTakeHome rfl rfl rfl kdV_X7_noTakeHome ⟨Nat.le_of_ble_eq_true rfl, Nat.le_of_ble_eq_true rfl⟩) rfl rfl (Nat.le_of_ble_eq_true rfl) ⟨Nat.le_of_ble_eq_true rfl, Nat.le_of_ble_eq_true rfl⟩ dX7_noOrder_176 ?_
      exact gx_iretR C rfl hr dX7_noOrder_179 (congrArg Value.int ((if_neg n4_98).trans ((if_neg n4_99).trans ((if_neg n4_100).trans ((if_neg n4_101).trans ((if_neg n4_102).trans ((if_neg n4_103).trans ((if_neg n4_104).trans ((if_neg n4_105).trans ((if_neg n4_106).trans ((if_pos e4_107).trans (rfl))))))))))).symm)
    · skip
      refine gx_tableIn (off := 127) (tgt := 131) C dX7_noOrder_4 (by rw [sw_4]; decide) (by rw [sw_4]; decide) (by rw [sw_4]; rfl) (by decide) ?_
      have e4_108 : kd = 108 := gsw_eq sw_4 (by decide)
      have n4_98 : ¬ kd = 98 := gsw_n2 e4_108 (by decide)
      have n4_99 : ¬ kd = 99 := gsw_n2 e4_108 (by decide)
      have n4_100 : ¬ kd = 100 := gsw_n2 e4_108 (by decide)
      have n4_101 : ¬ kd = 101 := gsw_n2 e4_108 (by decide)
      have n4_102 : ¬ kd = 102 := gsw_n2 e4_108 (by decide)
      have n4_103 : ¬ kd = 103 := gsw_n2 e4_108 (by decide)
      have n4_104 : ¬ kd = 104 := gsw_n2 e4_108 (by decide)
      have n4_105 : ¬ kd = 105 := gsw_n2 e4_108 (by decide)
      have n4_106 : ¬ kd = 106 := gsw_n2 e4_108 (by decide)
      have n4_107 : ¬ kd = 107 := gsw_n2 e4_108 (by decide)
      refine gx_aload_n (q := 0) C dX7_noOrder_131 rfl ?_
      refine gx_aload_n (q := 0) C dX7_noOrder_132 rfl ?_
      refine gx_get C (i := 10) (isMS_in hW 0 (Nat.le_of_ble_eq_true rfl)) (isMS_0 hW) rfl in_X7_noOrder_7 (by decide) fl_X7_noOrder_212 rfl dX7_noOrder_133 ?_
      refine gx_top a0 h5 ?_
      refine gx_callR C (k_X7_noLoad l hW hM _) (isMS_in hW 0 (Nat.le_of_ble_eq_true rfl)) (isMS_0 hW) rfl (cwV 1 C.2.2.2.2.1 gX7_noOrder_X7_noLoad rfl rfl rfl kdV_X7_noLoad ⟨Nat.le_of_ble_eq_true rfl, Nat.le_of_ble_eq_true rfl⟩) rfl rfl (Nat.le_of_ble_eq_true rfl) ⟨Nat.le_of_ble_eq_true rfl, Nat.le_of_ble_eq_true rfl⟩ dX7_noOrder_136 ?_
      exact gx_iretR C rfl hr dX7_noOrder_139 (congrArg Value.int ((if_neg n4_98).trans ((if_neg n4_99).trans ((if_neg n4_100).trans ((if_neg n4_101).trans ((if_neg n4_102).trans ((if_neg n4_103).trans ((if_neg n4_104).trans ((if_neg n4_105).trans ((if_neg n4_106).trans ((if_neg n4_107).trans ((if_pos e4_108).trans (rfl)))))))))))).symm)
    · skip
      refine gx_tableIn (off := 167) (tgt := 171) C dX7_noOrder_4 (by rw [sw_4]; decide) (by rw [sw_4]; decide) (by rw [sw_4]; rfl) (by decide) ?_
      have e4_109 : kd = 109 := gsw_eq sw_4 (by decide)
      have n4_98 : ¬ kd = 98 := gsw_n2 e4_109 (by decide)
      have n4_99 : ¬ kd = 99 := gsw_n2 e4_109 (by decide)
      have n4_100 : ¬ kd = 100 := gsw_n2 e4_109 (by decide)
      have n4_101 : ¬ kd = 101 := gsw_n2 e4_109 (by decide)
      have n4_102 : ¬ kd = 102 := gsw_n2 e4_109 (by decide)
      have n4_103 : ¬ kd = 103 := gsw_n2 e4_109 (by decide)
      have n4_104 : ¬ kd = 104 := gsw_n2 e4_109 (by decide)
      have n4_105 : ¬ kd = 105 := gsw_n2 e4_109 (by decide)
      have n4_106 : ¬ kd = 106 := gsw_n2 e4_109 (by decide)
      have n4_107 : ¬ kd = 107 := gsw_n2 e4_109 (by decide)
      have n4_108 : ¬ kd = 108 := gsw_n2 e4_109 (by decide)
      refine gx_aload_n (q := 0) C dX7_noOrder_171 rfl ?_
      refine gx_aload_n (q := 0) C dX7_noOrder_172 rfl ?_
      refine gx_get C (i := 10) (isMS_in hW 0 (Nat.le_of_ble_eq_true rfl)) (isMS_0 hW) rfl in_X7_noOrder_7 (by decide) fl_X7_noOrder_212 rfl dX7_noOrder_173 ?_
      refine gx_top a0 h5 ?_
      refine gx_callR C (k_X7_noTakeHome l hW hM _) (isMS_in hW 0 (Nat.le_of_ble_eq_true rfl)) (isMS_0 hW) rfl (cwV 1 C.2.2.2.2.1 gX7_noOrder_X7_noTakeHome rfl rfl rfl kdV_X7_noTakeHome ⟨Nat.le_of_ble_eq_true rfl, Nat.le_of_ble_eq_true rfl⟩) rfl rfl (Nat.le_of_ble_eq_true rfl) ⟨Nat.le_of_ble_eq_true rfl, Nat.le_of_ble_eq_true rfl⟩ dX7_noOrder_176 ?_
      exact gx_iretR C rfl hr dX7_noOrder_179 (congrArg Value.int ((if_neg n4_98).trans ((if_neg n4_99).trans ((if_neg n4_100).trans ((if_neg n4_101).trans ((if_neg n4_102).trans ((if_neg n4_103).trans ((if_neg n4_104).trans ((if_neg n4_105).trans ((if_neg n4_106).trans ((if_neg n4_107).trans ((if_neg n4_108).trans ((if_pos e4_109).trans (rfl))))))))))))).symm)
    · skip
      refine gx_tableIn (off := 158) (tgt := 162) C dX7_noOrder_4 (by rw [sw_4]; decide) (by rw [sw_4]; decide) (by rw [sw_4]; rfl) (by decide) ?_
      have e4_110 : kd = 110 := gsw_eq sw_4 (by decide)
      have n4_98 : ¬ kd = 98 := gsw_n2 e4_110 (by decide)
      have n4_99 : ¬ kd = 99 := gsw_n2 e4_110 (by decide)
      have n4_100 : ¬ kd = 100 := gsw_n2 e4_110 (by decide)
      have n4_101 : ¬ kd = 101 := gsw_n2 e4_110 (by decide)
      have n4_102 : ¬ kd = 102 := gsw_n2 e4_110 (by decide)
      have n4_103 : ¬ kd = 103 := gsw_n2 e4_110 (by decide)
      have n4_104 : ¬ kd = 104 := gsw_n2 e4_110 (by decide)
      have n4_105 : ¬ kd = 105 := gsw_n2 e4_110 (by decide)
      have n4_106 : ¬ kd = 106 := gsw_n2 e4_110 (by decide)
      have n4_107 : ¬ kd = 107 := gsw_n2 e4_110 (by decide)
      have n4_108 : ¬ kd = 108 := gsw_n2 e4_110 (by decide)
      have n4_109 : ¬ kd = 109 := gsw_n2 e4_110 (by decide)
      refine gx_aload_n (q := 0) C dX7_noOrder_162 rfl ?_
      refine gx_aload_n (q := 0) C dX7_noOrder_163 rfl ?_
      refine gx_get C (i := 10) (isMS_in hW 0 (Nat.le_of_ble_eq_true rfl)) (isMS_0 hW) rfl in_X7_noOrder_7 (by decide) fl_X7_noOrder_212 rfl dX7_noOrder_164 ?_
      refine gx_top a0 h5 ?_
      refine gx_callR C (k_X7_noPass l hW _) (isMS_in hW 0 (Nat.le_of_ble_eq_true rfl)) (isMS_0 hW) rfl (cwV 1 C.2.2.2.2.1 gX7_noOrder_X7_noPass rfl rfl rfl kdV_X7_noPass ⟨Nat.le_of_ble_eq_true rfl, Nat.le_of_ble_eq_true rfl⟩) rfl rfl (Nat.le_of_ble_eq_true rfl) ⟨Nat.le_of_ble_eq_true rfl, Nat.le_of_ble_eq_true rfl⟩ dX7_noOrder_167 ?_
      exact gx_iretR C rfl hr dX7_noOrder_170 (congrArg Value.int ((if_neg n4_98).trans ((if_neg n4_99).trans ((if_neg n4_100).trans ((if_neg n4_101).trans ((if_neg n4_102).trans ((if_neg n4_103).trans ((if_neg n4_104).trans ((if_neg n4_105).trans ((if_neg n4_106).trans ((if_neg n4_107).trans ((if_neg n4_108).trans ((if_neg n4_109).trans ((if_pos e4_110).trans (rfl)))))))))))))).symm)
    · skip
      refine gx_tableIn (off := 167) (tgt := 171) C dX7_noOrder_4 (by rw [sw_4]; decide) (by rw [sw_4]; decide) (by rw [sw_4]; rfl) (by decide) ?_
      have e4_111 : kd = 111 := gsw_eq sw_4 (by decide)
      have n4_98 : ¬ kd = 98 := gsw_n2 e4_111 (by decide)
      have n4_99 : ¬ kd = 99 := gsw_n2 e4_111 (by decide)
      have n4_100 : ¬ kd = 100 := gsw_n2 e4_111 (by decide)
      have n4_101 : ¬ kd = 101 := gsw_n2 e4_111 (by decide)
      have n4_102 : ¬ kd = 102 := gsw_n2 e4_111 (by decide)
      have n4_103 : ¬ kd = 103 := gsw_n2 e4_111 (by decide)
      have n4_104 : ¬ kd = 104 := gsw_n2 e4_111 (by decide)
      have n4_105 : ¬ kd = 105 := gsw_n2 e4_111 (by decide)
      have n4_106 : ¬ kd = 106 := gsw_n2 e4_111 (by decide)
      have n4_107 : ¬ kd = 107 := gsw_n2 e4_111 (by decide)
      have n4_108 : ¬ kd = 108 := gsw_n2 e4_111 (by decide)
      have n4_109 : ¬ kd = 109 := gsw_n2 e4_111 (by decide)
      have n4_110 : ¬ kd = 110 := gsw_n2 e4_111 (by decide)
      refine gx_aload_n (q := 0) C dX7_noOrder_171 rfl ?_
      refine gx_aload_n (q := 0) C dX7_noOrder_172 rfl ?_
      refine gx_get C (i := 10) (isMS_in hW 0 (Nat.le_of_ble_eq_true rfl)) (isMS_0 hW) rfl in_X7_noOrder_7 (by decide) fl_X7_noOrder_212 rfl dX7_noOrder_173 ?_
      refine gx_top a0 h5 ?_
      refine gx_callR C (k_X7_noTakeHome l hW hM _) (isMS_in hW 0 (Nat.le_of_ble_eq_true rfl)) (isMS_0 hW) rfl (cwV 1 C.2.2.2.2.1 gX7_noOrder_X7_noTakeHome rfl rfl rfl kdV_X7_noTakeHome ⟨Nat.le_of_ble_eq_true rfl, Nat.le_of_ble_eq_true rfl⟩) rfl rfl (Nat.le_of_ble_eq_true rfl) ⟨Nat.le_of_ble_eq_true rfl, Nat.le_of_ble_eq_true rfl⟩ dX7_noOrder_176 ?_
      exact gx_iretR C rfl hr dX7_noOrder_179 (congrArg Value.int ((if_neg n4_98).trans ((if_neg n4_99).trans ((if_neg n4_100).trans ((if_neg n4_101).trans ((if_neg n4_102).trans ((if_neg n4_103).trans ((if_neg n4_104).trans ((if_neg n4_105).trans ((if_neg n4_106).trans ((if_neg n4_107).trans ((if_neg n4_108).trans ((if_neg n4_109).trans ((if_neg n4_110).trans ((if_pos e4_111).trans (rfl))))))))))))))).symm)
    · skip
      refine gx_tableIn (off := 92) (tgt := 96) C dX7_noOrder_4 (by rw [sw_4]; decide) (by rw [sw_4]; decide) (by rw [sw_4]; rfl) (by decide) ?_
      have e4_112 : kd = 112 := gsw_eq sw_4 (by decide)
      have n4_98 : ¬ kd = 98 := gsw_n2 e4_112 (by decide)
      have n4_99 : ¬ kd = 99 := gsw_n2 e4_112 (by decide)
      have n4_100 : ¬ kd = 100 := gsw_n2 e4_112 (by decide)
      have n4_101 : ¬ kd = 101 := gsw_n2 e4_112 (by decide)
      have n4_102 : ¬ kd = 102 := gsw_n2 e4_112 (by decide)
      have n4_103 : ¬ kd = 103 := gsw_n2 e4_112 (by decide)
      have n4_104 : ¬ kd = 104 := gsw_n2 e4_112 (by decide)
      have n4_105 : ¬ kd = 105 := gsw_n2 e4_112 (by decide)
      have n4_106 : ¬ kd = 106 := gsw_n2 e4_112 (by decide)
      have n4_107 : ¬ kd = 107 := gsw_n2 e4_112 (by decide)
      have n4_108 : ¬ kd = 108 := gsw_n2 e4_112 (by decide)
      have n4_109 : ¬ kd = 109 := gsw_n2 e4_112 (by decide)
      have n4_110 : ¬ kd = 110 := gsw_n2 e4_112 (by decide)
      have n4_111 : ¬ kd = 111 := gsw_n2 e4_112 (by decide)
      refine gx_aload_n (q := 0) C dX7_noOrder_96 rfl ?_
      refine gx_callR C (k_X7_noPupil l hW) (isMS_in hW 0 (Nat.le_of_ble_eq_true rfl)) (isMS_0 hW) rfl (cwV 0 C.2.2.2.2.1 gX7_noOrder_X7_noPupil rfl rfl rfl kdV_X7_noPupil ⟨Nat.le_of_ble_eq_true rfl, Nat.le_of_ble_eq_true rfl⟩) rfl rfl (Nat.le_of_ble_eq_true rfl) ⟨Nat.le_of_ble_eq_true rfl, Nat.le_of_ble_eq_true rfl⟩ dX7_noOrder_97 ?_
      exact gx_iretR C rfl hr dX7_noOrder_100 (congrArg Value.int ((if_neg n4_98).trans ((if_neg n4_99).trans ((if_neg n4_100).trans ((if_neg n4_101).trans ((if_neg n4_102).trans ((if_neg n4_103).trans ((if_neg n4_104).trans ((if_neg n4_105).trans ((if_neg n4_106).trans ((if_neg n4_107).trans ((if_neg n4_108).trans ((if_neg n4_109).trans ((if_neg n4_110).trans ((if_neg n4_111).trans ((if_pos e4_112).trans (rfl)))))))))))))))).symm)
    · skip
      refine gx_tableIn (off := 167) (tgt := 171) C dX7_noOrder_4 (by rw [sw_4]; decide) (by rw [sw_4]; decide) (by rw [sw_4]; rfl) (by decide) ?_
      have e4_113 : kd = 113 := gsw_eq sw_4 (by decide)
      have n4_98 : ¬ kd = 98 := gsw_n2 e4_113 (by decide)
      have n4_99 : ¬ kd = 99 := gsw_n2 e4_113 (by decide)
      have n4_100 : ¬ kd = 100 := gsw_n2 e4_113 (by decide)
      have n4_101 : ¬ kd = 101 := gsw_n2 e4_113 (by decide)
      have n4_102 : ¬ kd = 102 := gsw_n2 e4_113 (by decide)
      have n4_103 : ¬ kd = 103 := gsw_n2 e4_113 (by decide)
      have n4_104 : ¬ kd = 104 := gsw_n2 e4_113 (by decide)
      have n4_105 : ¬ kd = 105 := gsw_n2 e4_113 (by decide)
      have n4_106 : ¬ kd = 106 := gsw_n2 e4_113 (by decide)
      have n4_107 : ¬ kd = 107 := gsw_n2 e4_113 (by decide)
      have n4_108 : ¬ kd = 108 := gsw_n2 e4_113 (by decide)
      have n4_109 : ¬ kd = 109 := gsw_n2 e4_113 (by decide)
      have n4_110 : ¬ kd = 110 := gsw_n2 e4_113 (by decide)
      have n4_111 : ¬ kd = 111 := gsw_n2 e4_113 (by decide)
      have n4_112 : ¬ kd = 112 := gsw_n2 e4_113 (by decide)
      refine gx_aload_n (q := 0) C dX7_noOrder_171 rfl ?_
      refine gx_aload_n (q := 0) C dX7_noOrder_172 rfl ?_
      refine gx_get C (i := 10) (isMS_in hW 0 (Nat.le_of_ble_eq_true rfl)) (isMS_0 hW) rfl in_X7_noOrder_7 (by decide) fl_X7_noOrder_212 rfl dX7_noOrder_173 ?_
      refine gx_top a0 h5 ?_
      refine gx_callR C (k_X7_noTakeHome l hW hM _) (isMS_in hW 0 (Nat.le_of_ble_eq_true rfl)) (isMS_0 hW) rfl (cwV 1 C.2.2.2.2.1 gX7_noOrder_X7_noTakeHome rfl rfl rfl kdV_X7_noTakeHome ⟨Nat.le_of_ble_eq_true rfl, Nat.le_of_ble_eq_true rfl⟩) rfl rfl (Nat.le_of_ble_eq_true rfl) ⟨Nat.le_of_ble_eq_true rfl, Nat.le_of_ble_eq_true rfl⟩ dX7_noOrder_176 ?_
      exact gx_iretR C rfl hr dX7_noOrder_179 (congrArg Value.int ((if_neg n4_98).trans ((if_neg n4_99).trans ((if_neg n4_100).trans ((if_neg n4_101).trans ((if_neg n4_102).trans ((if_neg n4_103).trans ((if_neg n4_104).trans ((if_neg n4_105).trans ((if_neg n4_106).trans ((if_neg n4_107).trans ((if_neg n4_108).trans ((if_neg n4_109).trans ((if_neg n4_110).trans ((if_neg n4_111).trans ((if_neg n4_112).trans ((if_pos e4_113).trans (rfl))))))))))))))))).symm)
    · skip
      refine gx_tableIn (off := 167) (tgt := 171) C dX7_noOrder_4 (by rw [sw_4]; decide) (by rw [sw_4]; decide) (by rw [sw_4]; rfl) (by decide) ?_
      have e4_114 : kd = 114 := gsw_eq sw_4 (by decide)
      have n4_98 : ¬ kd = 98 := gsw_n2 e4_114 (by decide)
      have n4_99 : ¬ kd = 99 := gsw_n2 e4_114 (by decide)
      have n4_100 : ¬ kd = 100 := gsw_n2 e4_114 (by decide)
      have n4_101 : ¬ kd = 101 := gsw_n2 e4_114 (by decide)
      have n4_102 : ¬ kd = 102 := gsw_n2 e4_114 (by decide)
      have n4_103 : ¬ kd = 103 := gsw_n2 e4_114 (by decide)
      have n4_104 : ¬ kd = 104 := gsw_n2 e4_114 (by decide)
      have n4_105 : ¬ kd = 105 := gsw_n2 e4_114 (by decide)
      have n4_106 : ¬ kd = 106 := gsw_n2 e4_114 (by decide)
      have n4_107 : ¬ kd = 107 := gsw_n2 e4_114 (by decide)
      have n4_108 : ¬ kd = 108 := gsw_n2 e4_114 (by decide)
      have n4_109 : ¬ kd = 109 := gsw_n2 e4_114 (by decide)
      have n4_110 : ¬ kd = 110 := gsw_n2 e4_114 (by decide)
      have n4_111 : ¬ kd = 111 := gsw_n2 e4_114 (by decide)
      have n4_112 : ¬ kd = 112 := gsw_n2 e4_114 (by decide)
      have n4_113 : ¬ kd = 113 := gsw_n2 e4_114 (by decide)
      refine gx_aload_n (q := 0) C dX7_noOrder_171 rfl ?_
      refine gx_aload_n (q := 0) C dX7_noOrder_172 rfl ?_
      refine gx_get C (i := 10) (isMS_in hW 0 (Nat.le_of_ble_eq_true rfl)) (isMS_0 hW) rfl in_X7_noOrder_7 (by decide) fl_X7_noOrder_212 rfl dX7_noOrder_173 ?_
      refine gx_top a0 h5 ?_
      refine gx_callR C (k_X7_noTakeHome l hW hM _) (isMS_in hW 0 (Nat.le_of_ble_eq_true rfl)) (isMS_0 hW) rfl (cwV 1 C.2.2.2.2.1 gX7_noOrder_X7_noTakeHome rfl rfl rfl kdV_X7_noTakeHome ⟨Nat.le_of_ble_eq_true rfl, Nat.le_of_ble_eq_true rfl⟩) rfl rfl (Nat.le_of_ble_eq_true rfl) ⟨Nat.le_of_ble_eq_true rfl, Nat.le_of_ble_eq_true rfl⟩ dX7_noOrder_176 ?_
      exact gx_iretR C rfl hr dX7_noOrder_179 (congrArg Value.int ((if_neg n4_98).trans ((if_neg n4_99).trans ((if_neg n4_100).trans ((if_neg n4_101).trans ((if_neg n4_102).trans ((if_neg n4_103).trans ((if_neg n4_104).trans ((if_neg n4_105).trans ((if_neg n4_106).trans ((if_neg n4_107).trans ((if_neg n4_108).trans ((if_neg n4_109).trans ((if_neg n4_110).trans ((if_neg n4_111).trans ((if_neg n4_112).trans ((if_neg n4_113).trans ((if_pos e4_114).trans (rfl)))))))))))))))))).symm)
    · skip
      refine gx_tableIn (off := 167) (tgt := 171) C dX7_noOrder_4 (by rw [sw_4]; decide) (by rw [sw_4]; decide) (by rw [sw_4]; rfl) (by decide) ?_
      have e4_115 : kd = 115 := gsw_eq sw_4 (by decide)
      have n4_98 : ¬ kd = 98 := gsw_n2 e4_115 (by decide)
      have n4_99 : ¬ kd = 99 := gsw_n2 e4_115 (by decide)
      have n4_100 : ¬ kd = 100 := gsw_n2 e4_115 (by decide)
      have n4_101 : ¬ kd = 101 := gsw_n2 e4_115 (by decide)
      have n4_102 : ¬ kd = 102 := gsw_n2 e4_115 (by decide)
      have n4_103 : ¬ kd = 103 := gsw_n2 e4_115 (by decide)
      have n4_104 : ¬ kd = 104 := gsw_n2 e4_115 (by decide)
      have n4_105 : ¬ kd = 105 := gsw_n2 e4_115 (by decide)
      have n4_106 : ¬ kd = 106 := gsw_n2 e4_115 (by decide)
      have n4_107 : ¬ kd = 107 := gsw_n2 e4_115 (by decide)
      have n4_108 : ¬ kd = 108 := gsw_n2 e4_115 (by decide)
      have n4_109 : ¬ kd = 109 := gsw_n2 e4_115 (by decide)
      have n4_110 : ¬ kd = 110 := gsw_n2 e4_115 (by decide)
      have n4_111 : ¬ kd = 111 := gsw_n2 e4_115 (by decide)
      have n4_112 : ¬ kd = 112 := gsw_n2 e4_115 (by decide)
      have n4_113 : ¬ kd = 113 := gsw_n2 e4_115 (by decide)
      have n4_114 : ¬ kd = 114 := gsw_n2 e4_115 (by decide)
      refine gx_aload_n (q := 0) C dX7_noOrder_171 rfl ?_
      refine gx_aload_n (q := 0) C dX7_noOrder_172 rfl ?_
      refine gx_get C (i := 10) (isMS_in hW 0 (Nat.le_of_ble_eq_true rfl)) (isMS_0 hW) rfl in_X7_noOrder_7 (by decide) fl_X7_noOrder_212 rfl dX7_noOrder_173 ?_
      refine gx_top a0 h5 ?_
      refine gx_callR C (k_X7_noTakeHome l hW hM _) (isMS_in hW 0 (Nat.le_of_ble_eq_true rfl)) (isMS_0 hW) rfl (cwV 1 C.2.2.2.2.1 gX7_noOrder_X7_noTakeHome rfl rfl rfl kdV_X7_noTakeHome ⟨Nat.le_of_ble_eq_true rfl, Nat.le_of_ble_eq_true rfl⟩) rfl rfl (Nat.le_of_ble_eq_true rfl) ⟨Nat.le_of_ble_eq_true rfl, Nat.le_of_ble_eq_true rfl⟩ dX7_noOrder_176 ?_
      exact gx_iretR C rfl hr dX7_noOrder_179 (congrArg Value.int ((if_neg n4_98).trans ((if_neg n4_99).trans ((if_neg n4_100).trans ((if_neg n4_101).trans ((if_neg n4_102).trans ((if_neg n4_103).trans ((if_neg n4_104).trans ((if_neg n4_105).trans ((if_neg n4_106).trans ((if_neg n4_107).trans ((if_neg n4_108).trans ((if_neg n4_109).trans ((if_neg n4_110).trans ((if_neg n4_111).trans ((if_neg n4_112).trans ((if_neg n4_113).trans ((if_neg n4_114).trans ((if_pos e4_115).trans (rfl))))))))))))))))))).symm)
    · skip
      refine gx_tableIn (off := 114) (tgt := 118) C dX7_noOrder_4 (by rw [sw_4]; decide) (by rw [sw_4]; decide) (by rw [sw_4]; rfl) (by decide) ?_
      have e4_116 : kd = 116 := gsw_eq sw_4 (by decide)
      have n4_98 : ¬ kd = 98 := gsw_n2 e4_116 (by decide)
      have n4_99 : ¬ kd = 99 := gsw_n2 e4_116 (by decide)
      have n4_100 : ¬ kd = 100 := gsw_n2 e4_116 (by decide)
      have n4_101 : ¬ kd = 101 := gsw_n2 e4_116 (by decide)
      have n4_102 : ¬ kd = 102 := gsw_n2 e4_116 (by decide)
      have n4_103 : ¬ kd = 103 := gsw_n2 e4_116 (by decide)
      have n4_104 : ¬ kd = 104 := gsw_n2 e4_116 (by decide)
      have n4_105 : ¬ kd = 105 := gsw_n2 e4_116 (by decide)
      have n4_106 : ¬ kd = 106 := gsw_n2 e4_116 (by decide)
      have n4_107 : ¬ kd = 107 := gsw_n2 e4_116 (by decide)
      have n4_108 : ¬ kd = 108 := gsw_n2 e4_116 (by decide)
      have n4_109 : ¬ kd = 109 := gsw_n2 e4_116 (by decide)
      have n4_110 : ¬ kd = 110 := gsw_n2 e4_116 (by decide)
      have n4_111 : ¬ kd = 111 := gsw_n2 e4_116 (by decide)
      have n4_112 : ¬ kd = 112 := gsw_n2 e4_116 (by decide)
      have n4_113 : ¬ kd = 113 := gsw_n2 e4_116 (by decide)
      have n4_114 : ¬ kd = 114 := gsw_n2 e4_116 (by decide)
      have n4_115 : ¬ kd = 115 := gsw_n2 e4_116 (by decide)
      refine gx_aload_n (q := 0) C dX7_noOrder_118 rfl ?_
      refine gx_aload_n (q := 0) C dX7_noOrder_119 rfl ?_
      refine gx_get C (i := 10) (isMS_in hW 0 (Nat.le_of_ble_eq_true rfl)) (isMS_0 hW) rfl in_X7_noOrder_7 (by decide) fl_X7_noOrder_212 rfl dX7_noOrder_120 ?_
      refine gx_top a0 h5 ?_
      refine gx_aload_n (q := 0) C dX7_noOrder_123 rfl ?_
      refine gx_get C (i := 11) (isMS_in hW 0 (Nat.le_of_ble_eq_true rfl)) (isMS_0 hW) rfl in_X7_noOrder_7 (by decide) fl_X7_noOrder_203 rfl dX7_noOrder_124 ?_
      refine gx_top b0 h6 ?_
      refine gx_callR C (k_X7_noThrow l hW hM hQ _ _) (isMS_in hW 0 (Nat.le_of_ble_eq_true rfl)) (isMS_0 hW) rfl (cwV 2 C.2.2.2.2.1 gX7_noOrder_X7_noThrow rfl rfl rfl kdV_X7_noThrow ⟨Nat.le_of_ble_eq_true rfl, Nat.le_of_ble_eq_true rfl⟩) rfl rfl (Nat.le_of_ble_eq_true rfl) ⟨Nat.le_of_ble_eq_true rfl, Nat.le_of_ble_eq_true rfl⟩ dX7_noOrder_127 ?_
      exact gx_iretR C rfl hr dX7_noOrder_130 (congrArg Value.int ((if_neg n4_98).trans ((if_neg n4_99).trans ((if_neg n4_100).trans ((if_neg n4_101).trans ((if_neg n4_102).trans ((if_neg n4_103).trans ((if_neg n4_104).trans ((if_neg n4_105).trans ((if_neg n4_106).trans ((if_neg n4_107).trans ((if_neg n4_108).trans ((if_neg n4_109).trans ((if_neg n4_110).trans ((if_neg n4_111).trans ((if_neg n4_112).trans ((if_neg n4_113).trans ((if_neg n4_114).trans ((if_neg n4_115).trans ((if_pos e4_116).trans (rfl)))))))))))))))))))).symm)
theorem kdN_X7_doOrder : yX7_doOrder.cls ≠ "java/lang/invoke/MethodHandle" ∧ yX7_doOrder.cls ≠ "java/lang/invoke/VarHandle" ∧ (parseMethodDescriptor yX7_doOrder.desc).map (fun d => d.parameters.length) = some 0 := by decide +kernel
theorem kdV_X7_doOrder : yX7_doOrder.cls = RX7 ∧ yX7_doOrder.cls ≠ "java/lang/invoke/MethodHandle" ∧ yX7_doOrder.cls ≠ "java/lang/invoke/VarHandle" ∧ (parseMethodDescriptor yX7_doOrder.desc).map (fun d => d.parameters.length) = some 0 := ⟨rfl, kdN_X7_doOrder⟩
theorem le0 {x : Int32} (h : x = 0) : 0 ≤ x := by rw [h]; decide
def vX7_doOrder (y : MS)  (kd a0 b0 c0 : Int32) : Int32 := (if kd = 98 then (vX7_doBook y a0 b0 c0 (cl b0) (cl c0)) else (if kd = 99 then (vX7_doTakeHome y a0 (cl a0)) else (if kd = 100 then (vX7_doTakeHome y a0 (cl a0)) else (if kd = 101 then (vX7_doTakeHome y a0 (cl a0)) else (if kd = 102 then (zFP y a0 (mN y)) else (if kd = 103 then (vX7_doGlaze y a0 b0 (cl a0) (cl b0)) else (if kd = 104 then (vX7_doTakeHome y a0 (cl a0)) else (if kd = 105 then (vX7_doTakeHome y a0 (cl a0)) else (if kd = 106 then (vX7_doTakeHome y a0 (cl a0)) else (if kd = 107 then (vX7_doTakeHome y a0 (cl a0)) else (if kd = 108 then (vX7_doLoad y a0 (cl a0)) else (if kd = 109 then (vX7_doTakeHome y a0 (cl a0)) else (if kd = 110 then ((zPassN y (cl a0)).1 0 0) else (if kd = 111 then (vX7_doTakeHome y a0 (cl a0)) else (if kd = 112 then (vX7_doPupil y ) else (if kd = 113 then (vX7_doTakeHome y a0 (cl a0)) else (if kd = 114 then (vX7_doTakeHome y a0 (cl a0)) else (if kd = 115 then (vX7_doTakeHome y a0 (cl a0)) else (if kd = 116 then (vX7_doThrow y a0 b0 (cl a0)) else (vX7_doTakeHome y a0 (cl a0)))))))))))))))))))))
def wX7_doOrder (y : MS)  (kd a0 b0 c0 : Int32) : MS := (if kd = 98 then (wX7_doBook y a0 b0 c0 (cl b0) (cl c0)) else (if kd = 99 then (wX7_doTakeHome y a0 (cl a0)) else (if kd = 100 then (wX7_doTakeHome y a0 (cl a0)) else (if kd = 101 then (wX7_doTakeHome y a0 (cl a0)) else (if kd = 102 then (zDoFire y a0) else (if kd = 103 then (wX7_doGlaze y a0 b0 (cl a0) (cl b0)) else (if kd = 104 then (wX7_doTakeHome y a0 (cl a0)) else (if kd = 105 then (wX7_doTakeHome y a0 (cl a0)) else (if kd = 106 then (wX7_doTakeHome y a0 (cl a0)) else (if kd = 107 then (wX7_doTakeHome y a0 (cl a0)) else (if kd = 108 then (wX7_doLoad y a0 (cl a0)) else (if kd = 109 then (wX7_doTakeHome y a0 (cl a0)) else (if kd = 110 then (zPassN y (cl a0)) else (if kd = 111 then (wX7_doTakeHome y a0 (cl a0)) else (if kd = 112 then (wX7_doPupil y ) else (if kd = 113 then (wX7_doTakeHome y a0 (cl a0)) else (if kd = 114 then (wX7_doTakeHome y a0 (cl a0)) else (if kd = 115 then (wX7_doTakeHome y a0 (cl a0)) else (if kd = 116 then (wX7_doThrow y a0 b0 (cl a0)) else (wX7_doTakeHome y a0 (cl a0)))))))))))))))))))))
theorem in_X7_doOrder_7 : ∀ w ∈ u_ws RX7 TX7 13, w ∈ wsX7_doOrder := by decide +kernel
theorem fl_X7_doOrder_200 : Cond.fieldLink RX7 200 (TX7 9).1 (TX7 9).2.1 (TX7 9).2.2.1 ∈ wsX7_doOrder := by decide +kernel
theorem fl_X7_doOrder_212 : Cond.fieldLink RX7 212 (TX7 10).1 (TX7 10).2.1 (TX7 10).2.2.1 ∈ wsX7_doOrder := by decide +kernel
theorem fl_X7_doOrder_203 : Cond.fieldLink RX7 203 (TX7 11).1 (TX7 11).2.1 (TX7 11).2.2.1 ∈ wsX7_doOrder := by decide +kernel
theorem fl_X7_doOrder_206 : Cond.fieldLink RX7 206 (TX7 12).1 (TX7 12).2.1 (TX7 12).2.2.1 ∈ wsX7_doOrder := by decide +kernel
abbrev rmX7_doOrder : Room := { frames := 4, cells := 0, slots := 0, locals := 91 }
set_option maxHeartbeats 4000000 in
set_option maxRecDepth 100000 in
theorem k_X7_doOrder (l : Launch) {k : gK} {L : List Nat} {f : Nat → va_E} (hL : L.Nodup) {o : Nat → Nat} {y : MS} (hW : isMS k L f o y) (hM : mOK y) (hQ : mQK y) (hPa : ∀ i, i < mN y → hPu y i)  {kd a0 b0 c0 : Int32} (h4 : y.2 4 = kd) (h5 : y.2 5 = a0) (h6 : y.2 6 = b0) (h7 : y.2 7 = c0) (hno : vX7_noOrder y kd a0 b0 c0 = 0) : kM l k L f yX7_doOrder wsX7_doOrder rmX7_doOrder [.ref (o 0)] (mP k L o f (some (.int (vX7_doOrder y kd a0 b0 c0))) (wX7_doOrder y kd a0 b0 c0)) := by
  refine kM_of (cc := cX7_doOrder) (maxL := 1) (ret := (some .int)) (by decide) rfl (Nat.le_of_ble_eq_true rfl) ?_
  intro p e s m args below meth c C hr
  have hD : gD (fun q => q ∈ L) L := ⟨hL, fun _ h => h⟩
  refine gx_lv [(0, _)] [0] rfl ?_
  refine gx_aload_n (q := 0) C dX7_doOrder_0 rfl ?_
  refine gx_get C (i := 9) (isMS_in hW 0 (Nat.le_of_ble_eq_true rfl)) (isMS_0 hW) rfl in_X7_doOrder_7 (by decide) fl_X7_doOrder_200 rfl dX7_doOrder_1 ?_
  refine gx_top kd h4 ?_
  refine gsw_split 98 116 kd ?_ ?_
  · intro sw_4
    refine gx_tableOut (tgt := 171) C dX7_doOrder_4 sw_4 (by decide) ?_
    have n4_98 : ¬ kd = 98 := gsw_ne sw_4 (by decide)
    have n4_99 : ¬ kd = 99 := gsw_ne sw_4 (by decide)
    have n4_100 : ¬ kd = 100 := gsw_ne sw_4 (by decide)
    have n4_101 : ¬ kd = 101 := gsw_ne sw_4 (by decide)
    have n4_102 : ¬ kd = 102 := gsw_ne sw_4 (by decide)
    have n4_103 : ¬ kd = 103 := gsw_ne sw_4 (by decide)
    have n4_104 : ¬ kd = 104 := gsw_ne sw_4 (by decide)
    have n4_105 : ¬ kd = 105 := gsw_ne sw_4 (by decide)
    have n4_106 : ¬ kd = 106 := gsw_ne sw_4 (by decide)
    have n4_107 : ¬ kd = 107 := gsw_ne sw_4 (by decide)
    have n4_108 : ¬ kd = 108 := gsw_ne sw_4 (by decide)
    have n4_109 : ¬ kd = 109 := gsw_ne sw_4 (by decide)
    have n4_110 : ¬ kd = 110 := gsw_ne sw_4 (by decide)
    have n4_111 : ¬ kd = 111 := gsw_ne sw_4 (by decide)
    have n4_112 : ¬ kd = 112 := gsw_ne sw_4 (by decide)
    have n4_113 : ¬ kd = 113 := gsw_ne sw_4 (by decide)
    have n4_114 : ¬ kd = 114 := gsw_ne sw_4 (by decide)
    have n4_115 : ¬ kd = 115 := gsw_ne sw_4 (by decide)
    have n4_116 : ¬ kd = 116 := gsw_ne sw_4 (by decide)
    have hn0 : vX7_noTakeHome y a0 = 0 := (show vX7_noOrder y kd a0 b0 c0 = _ from (if_neg n4_98).trans ((if_neg n4_99).trans ((if_neg n4_100).trans ((if_neg n4_101).trans ((if_neg n4_102).trans ((if_neg n4_103).trans ((if_neg n4_104).trans ((if_neg n4_105).trans ((if_neg n4_106).trans ((if_neg n4_107).trans ((if_neg n4_108).trans ((if_neg n4_109).trans ((if_neg n4_110).trans ((if_neg n4_111).trans ((if_neg n4_112).trans ((if_neg n4_113).trans ((if_neg n4_114).trans ((if_neg n4_115).trans ((if_neg n4_116).trans (rfl)))))))))))))))))))).symm.trans hno
    obtain ⟨n_a0, b_a0⟩ := mPot hM (noTake_ok (le0 hn0))
    have bb_a0 := hM.2
    have hPu1 : hPu y (cl a0) := hPa (cl a0) b_a0
    refine gx_aload_n (q := 0) C dX7_doOrder_171 rfl ?_
    refine gx_aload_n (q := 0) C dX7_doOrder_172 rfl ?_
    refine gx_get C (i := 10) (isMS_in hW 0 (Nat.le_of_ble_eq_true rfl)) (isMS_0 hW) rfl in_X7_doOrder_7 (by decide) fl_X7_doOrder_212 rfl dX7_doOrder_173 ?_
    refine gx_top a0 h5 ?_
    refine gx_callSi C hD (gFr_rf (f := f)) (k_X7_doTakeHome l hL hW _ (i := (cl a0)) n_a0 (by omega) hPu1) (isMS_in hW 0 (Nat.le_of_ble_eq_true rfl)) (isMS_0 hW) rfl (cwV 1 C.2.2.2.2.1 gX7_doOrder_X7_doTakeHome rfl rfl rfl kdV_X7_doTakeHome ⟨Nat.le_of_ble_eq_true rfl, Nat.le_of_ble_eq_true rfl⟩) rfl rfl (Nat.le_of_ble_eq_true rfl) ⟨Nat.le_of_ble_eq_true rfl, Nat.le_of_ble_eq_true rfl⟩ dX7_doOrder_176 (fun f_1 hW_1 hF_1 => ?_)
    exact gx_iretS C hr hW_1 hF_1 dX7_doOrder_179 ((if_neg n4_98).trans ((if_neg n4_99).trans ((if_neg n4_100).trans ((if_neg n4_101).trans ((if_neg n4_102).trans ((if_neg n4_103).trans ((if_neg n4_104).trans ((if_neg n4_105).trans ((if_neg n4_106).trans ((if_neg n4_107).trans ((if_neg n4_108).trans ((if_neg n4_109).trans ((if_neg n4_110).trans ((if_neg n4_111).trans ((if_neg n4_112).trans ((if_neg n4_113).trans ((if_neg n4_114).trans ((if_neg n4_115).trans ((if_neg n4_116).trans (rfl)))))))))))))))))))).symm ((if_neg n4_98).trans ((if_neg n4_99).trans ((if_neg n4_100).trans ((if_neg n4_101).trans ((if_neg n4_102).trans ((if_neg n4_103).trans ((if_neg n4_104).trans ((if_neg n4_105).trans ((if_neg n4_106).trans ((if_neg n4_107).trans ((if_neg n4_108).trans ((if_neg n4_109).trans ((if_neg n4_110).trans ((if_neg n4_111).trans ((if_neg n4_112).trans ((if_neg n4_113).trans ((if_neg n4_114).trans ((if_neg n4_115).trans ((if_neg n4_116).trans (rfl)))))))))))))))))))).symm
  · intro j hj1 hj2 sw_4
    obtain rfl | rfl | rfl | rfl | rfl | rfl | rfl | rfl | rfl | rfl | rfl | rfl | rfl | rfl | rfl | rfl | rfl | rfl | rfl : j = 98 ∨ j = 99 ∨ j = 100 ∨ j = 101 ∨ j = 102 ∨ j = 103 ∨ j = 104 ∨ j = 105 ∨ j = 106 ∨ j = 107 ∨ j = 108 ∨ j = 109 ∨ j = 110 ∨ j = 111 ∨ j = 112 ∨ j = 113 ∨ j = 114 ∨ j = 115 ∨ j = 116 := by omega
    · skip
      refine gx_tableIn (off := 97) (tgt := 101) C dX7_doOrder_4 (by rw [sw_4]; decide) (by rw [sw_4]; decide) (by rw [sw_4]; rfl) (by decide) ?_
      have e4_98 : kd = 98 := gsw_eq sw_4 (by decide)
      have hn0 : vX7_noBook y a0 b0 c0 = 0 := (show vX7_noOrder y kd a0 b0 c0 = _ from (if_pos e4_98).trans (rfl)).symm.trans hno
      obtain ⟨n_b0, b_b0⟩ := mWheel (noBook_ok (le0 hn0)).2.1
      obtain ⟨n_c0, b_c0⟩ := mAhead (noBook_ok (le0 hn0)).2.2
      refine gx_aload_n (q := 0) C dX7_doOrder_101 rfl ?_
      refine gx_aload_n (q := 0) C dX7_doOrder_102 rfl ?_
      refine gx_get C (i := 10) (isMS_in hW 0 (Nat.le_of_ble_eq_true rfl)) (isMS_0 hW) rfl in_X7_doOrder_7 (by decide) fl_X7_doOrder_212 rfl dX7_doOrder_103 ?_
      refine gx_top a0 h5 ?_
      refine gx_aload_n (q := 0) C dX7_doOrder_106 rfl ?_
      refine gx_get C (i := 11) (isMS_in hW 0 (Nat.le_of_ble_eq_true rfl)) (isMS_0 hW) rfl in_X7_doOrder_7 (by decide) fl_X7_doOrder_203 rfl dX7_doOrder_107 ?_
      refine gx_top b0 h6 ?_
      refine gx_aload_n (q := 0) C dX7_doOrder_110 rfl ?_
      refine gx_get C (i := 12) (isMS_in hW 0 (Nat.le_of_ble_eq_true rfl)) (isMS_0 hW) rfl in_X7_doOrder_7 (by decide) fl_X7_doOrder_206 rfl dX7_doOrder_111 ?_
      refine gx_top c0 h7 ?_
      refine gx_callSi C hD (gFr_rf (f := f)) (k_X7_doBook l hL hW _ _ _ (i := (cl b0)) n_b0 (by omega) (j := (cl c0)) n_c0 (by omega)) (isMS_in hW 0 (Nat.le_of_ble_eq_true rfl)) (isMS_0 hW) rfl (cwV 3 C.2.2.2.2.1 gX7_doOrder_X7_doBook rfl rfl rfl kdV_X7_doBook ⟨Nat.le_of_ble_eq_true rfl, Nat.le_of_ble_eq_true rfl⟩) rfl rfl (Nat.le_of_ble_eq_true rfl) ⟨Nat.le_of_ble_eq_true rfl, Nat.le_of_ble_eq_true rfl⟩ dX7_doOrder_114 (fun f_2 hW_2 hF_2 => ?_)
      exact gx_iretS C hr hW_2 hF_2 dX7_doOrder_117 ((if_pos e4_98).trans (rfl)).symm ((if_pos e4_98).trans (rfl)).symm
    · skip
      refine gx_tableIn (off := 167) (tgt := 171) C dX7_doOrder_4 (by rw [sw_4]; decide) (by rw [sw_4]; decide) (by rw [sw_4]; rfl) (by decide) ?_
      have e4_99 : kd = 99 := gsw_eq sw_4 (by decide)
      have n4_98 : ¬ kd = 98 := gsw_n2 e4_99 (by decide)
      have hn0 : vX7_noTakeHome y a0 = 0 := (show vX7_noOrder y kd a0 b0 c0 = _ from (if_neg n4_98).trans ((if_pos e4_99).trans (rfl))).symm.trans hno
      obtain ⟨n_a0, b_a0⟩ := mPot hM (noTake_ok (le0 hn0))
      have bb_a0 := hM.2
      have hPu1 : hPu y (cl a0) := hPa (cl a0) b_a0
      refine gx_aload_n (q := 0) C dX7_doOrder_171 rfl ?_
      refine gx_aload_n (q := 0) C dX7_doOrder_172 rfl ?_
      refine gx_get C (i := 10) (isMS_in hW 0 (Nat.le_of_ble_eq_true rfl)) (isMS_0 hW) rfl in_X7_doOrder_7 (by decide) fl_X7_doOrder_212 rfl dX7_doOrder_173 ?_
      refine gx_top a0 h5 ?_
      refine gx_callSi C hD (gFr_rf (f := f)) (k_X7_doTakeHome l hL hW _ (i := (cl a0)) n_a0 (by omega) hPu1) (isMS_in hW 0 (Nat.le_of_ble_eq_true rfl)) (isMS_0 hW) rfl (cwV 1 C.2.2.2.2.1 gX7_doOrder_X7_doTakeHome rfl rfl rfl kdV_X7_doTakeHome ⟨Nat.le_of_ble_eq_true rfl, Nat.le_of_ble_eq_true rfl⟩) rfl rfl (Nat.le_of_ble_eq_true rfl) ⟨Nat.le_of_ble_eq_true rfl, Nat.le_of_ble_eq_true rfl⟩ dX7_doOrder_176 (fun f_3 hW_3 hF_3 => ?_)
      exact gx_iretS C hr hW_3 hF_3 dX7_doOrder_179 ((if_neg n4_98).trans ((if_pos e4_99).trans (rfl))).symm ((if_neg n4_98).trans ((if_pos e4_99).trans (rfl))).symm
    · skip
      refine gx_tableIn (off := 167) (tgt := 171) C dX7_doOrder_4 (by rw [sw_4]; decide) (by rw [sw_4]; decide) (by rw [sw_4]; rfl) (by decide) ?_
      have e4_100 : kd = 100 := gsw_eq sw_4 (by decide)
      have n4_98 : ¬ kd = 98 := gsw_n2 e4_100 (by decide)
      have n4_99 : ¬ kd = 99 := gsw_n2 e4_100 (by decide)
      have hn0 : vX7_noTakeHome y a0 = 0 := (show vX7_noOrder y kd a0 b0 c0 = _ from (if_neg n4_98).trans ((if_neg n4_99).trans ((if_pos e4_100).trans (rfl)))).symm.trans hno
      obtain ⟨n_a0, b_a0⟩ := mPot hM (noTake_ok (le0 hn0))
      have bb_a0 := hM.2
      have hPu1 : hPu y (cl a0) := hPa (cl a0) b_a0
      refine gx_aload_n (q := 0) C dX7_doOrder_171 rfl ?_
      refine gx_aload_n (q := 0) C dX7_doOrder_172 rfl ?_
      refine gx_get C (i := 10) (isMS_in hW 0 (Nat.le_of_ble_eq_true rfl)) (isMS_0 hW) rfl in_X7_doOrder_7 (by decide) fl_X7_doOrder_212 rfl dX7_doOrder_173 ?_
      refine gx_top a0 h5 ?_
      refine gx_callSi C hD (gFr_rf (f := f)) (k_X7_doTakeHome l hL hW _ (i := (cl a0)) n_a0 (by omega) hPu1) (isMS_in hW 0 (Nat.le_of_ble_eq_true rfl)) (isMS_0 hW) rfl (cwV 1 C.2.2.2.2.1 gX7_doOrder_X7_doTakeHome rfl rfl rfl kdV_X7_doTakeHome ⟨Nat.le_of_ble_eq_true rfl, Nat.le_of_ble_eq_true rfl⟩) rfl rfl (Nat.le_of_ble_eq_true rfl) ⟨Nat.le_of_ble_eq_true rfl, Nat.le_of_ble_eq_true rfl⟩ dX7_doOrder_176 (fun f_4 hW_4 hF_4 => ?_)
      exact gx_iretS C hr hW_4 hF_4 dX7_doOrder_179 ((if_neg n4_98).trans ((if_neg n4_99).trans ((if_pos e4_100).trans (rfl)))).symm ((if_neg n4_98).trans ((if_neg n4_99).trans ((if_pos e4_100).trans (rfl)))).symm
    · skip
      refine gx_tableIn (off := 167) (tgt := 171) C dX7_doOrder_4 (by rw [sw_4]; decide) (by rw [sw_4]; decide) (by rw [sw_4]; rfl) (by decide) ?_
      have e4_101 : kd = 101 := gsw_eq sw_4 (by decide)
      have n4_98 : ¬ kd = 98 := gsw_n2 e4_101 (by decide)
      have n4_99 : ¬ kd = 99 := gsw_n2 e4_101 (by decide)
      have n4_100 : ¬ kd = 100 := gsw_n2 e4_101 (by decide)
      have hn0 : vX7_noTakeHome y a0 = 0 := (show vX7_noOrder y kd a0 b0 c0 = _ from (if_neg n4_98).trans ((if_neg n4_99).trans ((if_neg n4_100).trans ((if_pos e4_101).trans (rfl))))).symm.trans hno
      obtain ⟨n_a0, b_a0⟩ := mPot hM (noTake_ok (le0 hn0))
      have bb_a0 := hM.2
      have hPu1 : hPu y (cl a0) := hPa (cl a0) b_a0
      refine gx_aload_n (q := 0) C dX7_doOrder_171 rfl ?_
      refine gx_aload_n (q := 0) C dX7_doOrder_172 rfl ?_
      refine gx_get C (i := 10) (isMS_in hW 0 (Nat.le_of_ble_eq_true rfl)) (isMS_0 hW) rfl in_X7_doOrder_7 (by decide) fl_X7_doOrder_212 rfl dX7_doOrder_173 ?_
      refine gx_top a0 h5 ?_
      refine gx_callSi C hD (gFr_rf (f := f)) (k_X7_doTakeHome l hL hW _ (i := (cl a0)) n_a0 (by omega) hPu1) (isMS_in hW 0 (Nat.le_of_ble_eq_true rfl)) (isMS_0 hW) rfl (cwV 1 C.2.2.2.2.1 gX7_doOrder_X7_doTakeHome rfl rfl rfl kdV_X7_doTakeHome ⟨Nat.le_of_ble_eq_true rfl, Nat.le_of_ble_eq_true rfl⟩) rfl rfl (Nat.le_of_ble_eq_true rfl) ⟨Nat.le_of_ble_eq_true rfl, Nat.le_of_ble_eq_true rfl⟩ dX7_doOrder_176 (fun f_5 hW_5 hF_5 => ?_)
      exact gx_iretS C hr hW_5 hF_5 dX7_doOrder_179 ((if_neg n4_98).trans ((if_neg n4_99).trans ((if_neg n4_100).trans ((if_pos e4_101).trans (rfl))))).symm ((if_neg n4_98).trans ((if_neg n4_99).trans ((if_neg n4_100).trans ((if_pos e4_101).trans (rfl))))).symm
    · skip
      refine gx_tableIn (off := 136) (tgt := 140) C dX7_doOrder_4 (by rw [sw_4]; decide) (by rw [sw_4]; decide) (by rw [sw_4]; rfl) (by decide) ?_
      have e4_102 : kd = 102 := gsw_eq sw_4 (by decide)
      have n4_98 : ¬ kd = 98 := gsw_n2 e4_102 (by decide)
      have n4_99 : ¬ kd = 99 := gsw_n2 e4_102 (by decide)
      have n4_100 : ¬ kd = 100 := gsw_n2 e4_102 (by decide)
      have n4_101 : ¬ kd = 101 := gsw_n2 e4_102 (by decide)
      refine gx_aload_n (q := 0) C dX7_doOrder_140 rfl ?_
      refine gx_aload_n (q := 0) C dX7_doOrder_141 rfl ?_
      refine gx_get C (i := 10) (isMS_in hW 0 (Nat.le_of_ble_eq_true rfl)) (isMS_0 hW) rfl in_X7_doOrder_7 (by decide) fl_X7_doOrder_212 rfl dX7_doOrder_142 ?_
      refine gx_top a0 h5 ?_
      refine gx_callSi C hD (gFr_rf (f := f)) (k_X7_doFire l hL hW hM _) (isMS_in hW 0 (Nat.le_of_ble_eq_true rfl)) (isMS_0 hW) rfl (cwV 1 C.2.2.2.2.1 gX7_doOrder_X7_doFire rfl rfl rfl kdV_X7_doFire ⟨Nat.le_of_ble_eq_true rfl, Nat.le_of_ble_eq_true rfl⟩) rfl rfl (Nat.le_of_ble_eq_true rfl) ⟨Nat.le_of_ble_eq_true rfl, Nat.le_of_ble_eq_true rfl⟩ dX7_doOrder_145 (fun f_6 hW_6 hF_6 => ?_)
      exact gx_iretS C hr hW_6 hF_6 dX7_doOrder_148 ((if_neg n4_98).trans ((if_neg n4_99).trans ((if_neg n4_100).trans ((if_neg n4_101).trans ((if_pos e4_102).trans (rfl)))))).symm ((if_neg n4_98).trans ((if_neg n4_99).trans ((if_neg n4_100).trans ((if_neg n4_101).trans ((if_pos e4_102).trans (rfl)))))).symm
    · skip
      refine gx_tableIn (off := 145) (tgt := 149) C dX7_doOrder_4 (by rw [sw_4]; decide) (by rw [sw_4]; decide) (by rw [sw_4]; rfl) (by decide) ?_
      have e4_103 : kd = 103 := gsw_eq sw_4 (by decide)
      have n4_98 : ¬ kd = 98 := gsw_n2 e4_103 (by decide)
      have n4_99 : ¬ kd = 99 := gsw_n2 e4_103 (by decide)
      have n4_100 : ¬ kd = 100 := gsw_n2 e4_103 (by decide)
      have n4_101 : ¬ kd = 101 := gsw_n2 e4_103 (by decide)
      have n4_102 : ¬ kd = 102 := gsw_n2 e4_103 (by decide)
      have hn0 : vX7_noGlaze y a0 b0 = 0 := (show vX7_noOrder y kd a0 b0 c0 = _ from (if_neg n4_98).trans ((if_neg n4_99).trans ((if_neg n4_100).trans ((if_neg n4_101).trans ((if_neg n4_102).trans ((if_pos e4_103).trans (rfl))))))).symm.trans hno
      obtain ⟨n_a0, b_a0⟩ := mPot hM (noGlaze_ok (le0 hn0)).1
      have bb_a0 := hM.2
      obtain ⟨n_b0, b_b0⟩ := mGlaze (noGlaze_ok (le0 hn0)).2
      refine gx_aload_n (q := 0) C dX7_doOrder_149 rfl ?_
      refine gx_aload_n (q := 0) C dX7_doOrder_150 rfl ?_
      refine gx_get C (i := 10) (isMS_in hW 0 (Nat.le_of_ble_eq_true rfl)) (isMS_0 hW) rfl in_X7_doOrder_7 (by decide) fl_X7_doOrder_212 rfl dX7_doOrder_151 ?_
      refine gx_top a0 h5 ?_
      refine gx_aload_n (q := 0) C dX7_doOrder_154 rfl ?_
      refine gx_get C (i := 11) (isMS_in hW 0 (Nat.le_of_ble_eq_true rfl)) (isMS_0 hW) rfl in_X7_doOrder_7 (by decide) fl_X7_doOrder_203 rfl dX7_doOrder_155 ?_
      refine gx_top b0 h6 ?_
      refine gx_callSi C hD (gFr_rf (f := f)) (k_X7_doGlaze l hL hW _ _ (i := (cl a0)) n_a0 (by omega) (j := (cl b0)) n_b0 (by omega)) (isMS_in hW 0 (Nat.le_of_ble_eq_true rfl)) (isMS_0 hW) rfl (cwV 2 C.2.2.2.2.1 gX7_doOrder_X7_doGlaze rfl rfl rfl kdV_X7_doGlaze ⟨Nat.le_of_ble_eq_true rfl, Nat.le_of_ble_eq_true rfl⟩) rfl rfl (Nat.le_of_ble_eq_true rfl) ⟨Nat.le_of_ble_eq_true rfl, Nat.le_of_ble_eq_true rfl⟩ dX7_doOrder_158 (fun f_7 hW_7 hF_7 => ?_)
      exact gx_iretS C hr hW_7 hF_7 dX7_doOrder_161 ((if_neg n4_98).trans ((if_neg n4_99).trans ((if_neg n4_100).trans ((if_neg n4_101).trans ((if_neg n4_102).trans ((if_pos e4_103).trans (rfl))))))).symm ((if_neg n4_98).trans ((if_neg n4_99).trans ((if_neg n4_100).trans ((if_neg n4_101).trans ((if_neg n4_102).trans ((if_pos e4_103).trans (rfl))))))).symm
    · skip
      refine gx_tableIn (off := 167) (tgt := 171) C dX7_doOrder_4 (by rw [sw_4]; decide) (by rw [sw_4]; decide) (by rw [sw_4]; rfl) (by decide) ?_
      have e4_104 : kd = 104 := gsw_eq sw_4 (by decide)
      have n4_98 : ¬ kd = 98 := gsw_n2 e4_104 (by decide)
      have n4_99 : ¬ kd = 99 := gsw_n2 e4_104 (by decide)
      have n4_100 : ¬ kd = 100 := gsw_n2 e4_104 (by decide)
      have n4_101 : ¬ kd = 101 := gsw_n2 e4_104 (by decide)
      have n4_102 : ¬ kd = 102 := gsw_n2 e4_104 (by decide)
      have n4_103 : ¬ kd = 103 := gsw_n2 e4_104 (by decide)
      have hn0 : vX7_noTakeHome y a0 = 0 := (show vX7_noOrder y kd a0 b0 c0 = _ from (if_neg n4_98).trans ((if_neg n4_99).trans ((if_neg n4_100).trans ((if_neg n4_101).trans ((if_neg n4_102).trans ((if_neg n4_103).trans ((if_pos e4_104).trans (rfl)))))))).symm.trans hno
      obtain ⟨n_a0, b_a0⟩ := mPot hM (noTake_ok (le0 hn0))
      have bb_a0 := hM.2
      have hPu1 : hPu y (cl a0) := hPa (cl a0) b_a0
      refine gx_aload_n (q := 0) C dX7_doOrder_171 rfl ?_
      refine gx_aload_n (q := 0) C dX7_doOrder_172 rfl ?_
      refine gx_get C (i := 10) (isMS_in hW 0 (Nat.le_of_ble_eq_true rfl)) (isMS_0 hW) rfl in_X7_doOrder_7 (by decide) fl_X7_doOrder_212 rfl dX7_doOrder_173 ?_
      refine gx_top a0 h5 ?_
      refine gx_callSi C hD (gFr_rf (f := f)) (k_X7_doTakeHome l hL hW _ (i := (cl a0)) n_a0 (by omega) hPu1) (isMS_in hW 0 (Nat.le_of_ble_eq_true rfl)) (isMS_0 hW) rfl (cwV 1 C.2.2.2.2.1 gX7_doOrder_X7_doTakeHome rfl rfl rfl kdV_X7_doTakeHome ⟨Nat.le_of_ble_eq_true rfl, Nat.le_of_ble_eq_true rfl⟩) rfl rfl (Nat.le_of_ble_eq_true rfl) ⟨Nat.le_of_ble_eq_true rfl, Nat.le_of_ble_eq_true rfl⟩ dX7_doOrder_176 (fun f_8 hW_8 hF_8 => ?_)
      exact gx_iretS C hr hW_8 hF_8 dX7_doOrder_179 ((if_neg n4_98).trans ((if_neg n4_99).trans ((if_neg n4_100).trans ((if_neg n4_101).trans ((if_neg n4_102).trans ((if_neg n4_103).trans ((if_pos e4_104).trans (rfl)))))))).symm ((if_neg n4_98).trans ((if_neg n4_99).trans ((if_neg n4_100).trans ((if_neg n4_101).trans ((if_neg n4_102).trans ((if_neg n4_103).trans ((if_pos e4_104).trans (rfl)))))))).symm
    · skip
      refine gx_tableIn (off := 167) (tgt := 171) C dX7_doOrder_4 (by rw [sw_4]; decide) (by rw [sw_4]; decide) (by rw [sw_4]; rfl) (by decide) ?_
      have e4_105 : kd = 105 := gsw_eq sw_4 (by decide)
      have n4_98 : ¬ kd = 98 := gsw_n2 e4_105 (by decide)
      have n4_99 : ¬ kd = 99 := gsw_n2 e4_105 (by decide)
      have n4_100 : ¬ kd = 100 := gsw_n2 e4_105 (by decide)
      have n4_101 : ¬ kd = 101 := gsw_n2 e4_105 (by decide)
      have n4_102 : ¬ kd = 102 := gsw_n2 e4_105 (by decide)
      have n4_103 : ¬ kd = 103 := gsw_n2 e4_105 (by decide)
      have n4_104 : ¬ kd = 104 := gsw_n2 e4_105 (by decide)
      have hn0 : vX7_noTakeHome y a0 = 0 := (show vX7_noOrder y kd a0 b0 c0 = _ from (if_neg n4_98).trans ((if_neg n4_99).trans ((if_neg n4_100).trans ((if_neg n4_101).trans ((if_neg n4_102).trans ((if_neg n4_103).trans ((if_neg n4_104).trans ((if_pos e4_105).trans (rfl))))))))).symm.trans hno
      obtain ⟨n_a0, b_a0⟩ := mPot hM (noTake_ok (le0 hn0))
      have bb_a0 := hM.2
      have hPu1 : hPu y (cl a0) := hPa (cl a0) b_a0
      refine gx_aload_n (q := 0) C dX7_doOrder_171 rfl ?_
      refine gx_aload_n (q := 0) C dX7_doOrder_172 rfl ?_
      refine gx_get C (i := 10) (isMS_in hW 0 (Nat.le_of_ble_eq_true rfl)) (isMS_0 hW) rfl in_X7_doOrder_7 (by decide) fl_X7_doOrder_212 rfl dX7_doOrder_173 ?_
      refine gx_top a0 h5 ?_
      refine gx_callSi C hD (gFr_rf (f := f)) (k_X7_doTakeHome l hL hW _ (i := (cl a0)) n_a0 (by omega) hPu1) (isMS_in hW 0 (Nat.le_of_ble_eq_true rfl)) (isMS_0 hW) rfl (cwV 1 C.2.2.2.2.1 gX7_doOrder_X7_doTakeHome rfl rfl rfl kdV_X7_doTakeHome ⟨Nat.le_of_ble_eq_true rfl, Nat.le_of_ble_eq_true rfl⟩) rfl rfl (Nat.le_of_ble_eq_true rfl) ⟨Nat.le_of_ble_eq_true rfl, Nat.le_of_ble_eq_true rfl⟩ dX7_doOrder_176 (fun f_9 hW_9 hF_9 => ?_)
      exact gx_iretS C hr hW_9 hF_9 dX7_doOrder_179 ((if_neg n4_98).trans ((if_neg n4_99).trans ((if_neg n4_100).trans ((if_neg n4_101).trans ((if_neg n4_102).trans ((if_neg n4_103).trans ((if_neg n4_104).trans ((if_pos e4_105).trans (rfl))))))))).symm ((if_neg n4_98).trans ((if_neg n4_99).trans ((if_neg n4_100).trans ((if_neg n4_101).trans ((if_neg n4_102).trans ((if_neg n4_103).trans ((if_neg n4_104).trans ((if_pos e4_105).trans (rfl))))))))).symm
    · skip
      refine gx_tableIn (off := 167) (tgt := 171) C dX7_doOrder_4 (by rw [sw_4]; decide) (by rw [sw_4]; decide) (by rw [sw_4]; rfl) (by decide) ?_
      have e4_106 : kd = 106 := gsw_eq sw_4 (by decide)
      have n4_98 : ¬ kd = 98 := gsw_n2 e4_106 (by decide)
      have n4_99 : ¬ kd = 99 := gsw_n2 e4_106 (by decide)
      have n4_100 : ¬ kd = 100 := gsw_n2 e4_106 (by decide)
      have n4_101 : ¬ kd = 101 := gsw_n2 e4_106 (by decide)
      have n4_102 : ¬ kd = 102 := gsw_n2 e4_106 (by decide)
      have n4_103 : ¬ kd = 103 := gsw_n2 e4_106 (by decide)
      have n4_104 : ¬ kd = 104 := gsw_n2 e4_106 (by decide)
      have n4_105 : ¬ kd = 105 := gsw_n2 e4_106 (by decide)
      have hn0 : vX7_noTakeHome y a0 = 0 := (show vX7_noOrder y kd a0 b0 c0 = _ from (if_neg n4_98).trans ((if_neg n4_99).trans ((if_neg n4_100).trans ((if_neg n4_101).trans ((if_neg n4_102).trans ((if_neg n4_103).trans ((if_neg n4_104).trans ((if_neg n4_105).trans ((if_pos e4_106).trans (rfl)))))))))).symm.trans hno
      obtain ⟨n_a0, b_a0⟩ := mPot hM (noTake_ok (le0 hn0))
      have bb_a0 := hM.2
      have hPu1 : hPu y (cl a0) := hPa (cl a0) b_a0
      refine gx_aload_n (q := 0) C dX7_doOrder_171 rfl ?_
      refine gx_aload_n (q := 0) C dX7_doOrder_172 rfl ?_
      refine gx_get C (i := 10) (isMS_in hW 0 (Nat.le_of_ble_eq_true rfl)) (isMS_0 hW) rfl in_X7_doOrder_7 (by decide) fl_X7_doOrder_212 rfl dX7_doOrder_173 ?_
      refine gx_top a0 h5 ?_
      refine gx_callSi C hD (gFr_rf (f := f)) (k_X7_doTakeHome l hL hW _ (i := (cl a0)) n_a0 (by omega) hPu1) (isMS_in hW 0 (Nat.le_of_ble_eq_true rfl)) (isMS_0 hW) rfl (cwV 1 C.2.2.2.2.1 gX7_doOrder_X7_doTakeHome rfl rfl rfl kdV_X7_doTakeHome ⟨Nat.le_of_ble_eq_true rfl, Nat.le_of_ble_eq_true rfl⟩) rfl rfl (Nat.le_of_ble_eq_true rfl) ⟨Nat.le_of_ble_eq_true rfl, Nat.le_of_ble_eq_true rfl⟩ dX7_doOrder_176 (fun f_10 hW_10 hF_10 => ?_)
      exact gx_iretS C hr hW_10 hF_10 dX7_doOrder_179 ((if_neg n4_98).trans ((if_neg n4_99).trans ((if_neg n4_100).trans ((if_neg n4_101).trans ((if_neg n4_102).trans ((if_neg n4_103).trans ((if_neg n4_104).trans ((if_neg n4_105).trans ((if_pos e4_106).trans (rfl)))))))))).symm ((if_neg n4_98).trans ((if_neg n4_99).trans ((if_neg n4_100).trans ((if_neg n4_101).trans ((if_neg n4_102).trans ((if_neg n4_103).trans ((if_neg n4_104).trans ((if_neg n4_105).trans ((if_pos e4_106).trans (rfl)))))))))).symm
    · skip
      refine gx_tableIn (off := 167) (tgt := 171) C dX7_doOrder_4 (by rw [sw_4]; decide) (by rw [sw_4]; decide) (by rw [sw_4]; rfl) (by decide) ?_
      have e4_107 : kd = 107 := gsw_eq sw_4 (by decide)
      have n4_98 : ¬ kd = 98 := gsw_n2 e4_107 (by decide)
      have n4_99 : ¬ kd = 99 := gsw_n2 e4_107 (by decide)
      have n4_100 : ¬ kd = 100 := gsw_n2 e4_107 (by decide)
      have n4_101 : ¬ kd = 101 := gsw_n2 e4_107 (by decide)
      have n4_102 : ¬ kd = 102 := gsw_n2 e4_107 (by decide)
      have n4_103 : ¬ kd = 103 := gsw_n2 e4_107 (by decide)
      have n4_104 : ¬ kd = 104 := gsw_n2 e4_107 (by decide)
      have n4_105 : ¬ kd = 105 := gsw_n2 e4_107 (by decide)
      have n4_106 : ¬ kd = 106 := gsw_n2 e4_107 (by decide)
      have hn0 : vX7_noTakeHome y a0 = 0 := (show vX7_noOrder y kd a0 b0 c0 = _ from (if_neg n4_98).trans ((if_neg n4_99).trans ((if_neg n4_100).trans ((if_neg n4_101).trans ((if_neg n4_102).trans ((if_neg n4_103).trans ((if_neg n4_104).trans ((if_neg n4_105).trans ((if_neg n4_106).trans ((if_pos e4_107).trans (rfl))))))))))).symm.trans hno
      obtain ⟨n_a0, b_a0⟩ := mPot hM (noTake_ok (le0 hn0))
      have bb_a0 := hM.2
      have hPu1 : hPu y (cl a0) := hPa (cl a0) b_a0
      refine gx_aload_n (q := 0) C dX7_doOrder_171 rfl ?_
      refine gx_aload_n (q := 0) C dX7_doOrder_172 rfl ?_
      refine gx_get C (i := 10) (isMS_in hW 0 (Nat.le_of_ble_eq_true rfl)) (isMS_0 hW) rfl in_X7_doOrder_7 (by decide) fl_X7_doOrder_212 rfl dX7_doOrder_173 ?_
      refine gx_top a0 h5 ?_
      refine gx_callSi C hD (gFr_rf (f := f)) (k_X7_doTakeHome l hL hW _ (i := (cl a0)) n_a0 (by omega) hPu1) (isMS_in hW 0 (Nat.le_of_ble_eq_true rfl)) (isMS_0 hW) rfl (cwV 1 C.2.2.2.2.1 gX7_doOrder_X7_doTakeHome rfl rfl rfl kdV_X7_doTakeHome ⟨Nat.le_of_ble_eq_true rfl, Nat.le_of_ble_eq_true rfl⟩) rfl rfl (Nat.le_of_ble_eq_true rfl) ⟨Nat.le_of_ble_eq_true rfl, Nat.le_of_ble_eq_true rfl⟩ dX7_doOrder_176 (fun f_11 hW_11 hF_11 => ?_)
      exact gx_iretS C hr hW_11 hF_11 dX7_doOrder_179 ((if_neg n4_98).trans ((if_neg n4_99).trans ((if_neg n4_100).trans ((if_neg n4_101).trans ((if_neg n4_102).trans ((if_neg n4_103).trans ((if_neg n4_104).trans ((if_neg n4_105).trans ((if_neg n4_106).trans ((if_pos e4_107).trans (rfl))))))))))).symm ((if_neg n4_98).trans ((if_neg n4_99).trans ((if_neg n4_100).trans ((if_neg n4_101).trans ((if_neg n4_102).trans ((if_neg n4_103).trans ((if_neg n4_104).trans ((if_neg n4_105).trans ((if_neg n4_106).trans ((if_pos e4_107).trans (rfl))))))))))).symm
    · skip
      refine gx_tableIn (off := 127) (tgt := 131) C dX7_doOrder_4 (by rw [sw_4]; decide) (by rw [sw_4]; decide) (by rw [sw_4]; rfl) (by decide) ?_
      have e4_108 : kd = 108 := gsw_eq sw_4 (by decide)
      have n4_98 : ¬ kd = 98 := gsw_n2 e4_108 (by decide)
      have n4_99 : ¬ kd = 99 := gsw_n2 e4_108 (by decide)
      have n4_100 : ¬ kd = 100 := gsw_n2 e4_108 (by decide)
      have n4_101 : ¬ kd = 101 := gsw_n2 e4_108 (by decide)
      have n4_102 : ¬ kd = 102 := gsw_n2 e4_108 (by decide)
      have n4_103 : ¬ kd = 103 := gsw_n2 e4_108 (by decide)
      have n4_104 : ¬ kd = 104 := gsw_n2 e4_108 (by decide)
      have n4_105 : ¬ kd = 105 := gsw_n2 e4_108 (by decide)
      have n4_106 : ¬ kd = 106 := gsw_n2 e4_108 (by decide)
      have n4_107 : ¬ kd = 107 := gsw_n2 e4_108 (by decide)
      have hn0 : vX7_noLoad y a0 = 0 := (show vX7_noOrder y kd a0 b0 c0 = _ from (if_neg n4_98).trans ((if_neg n4_99).trans ((if_neg n4_100).trans ((if_neg n4_101).trans ((if_neg n4_102).trans ((if_neg n4_103).trans ((if_neg n4_104).trans ((if_neg n4_105).trans ((if_neg n4_106).trans ((if_neg n4_107).trans ((if_pos e4_108).trans (rfl)))))))))))).symm.trans hno
      obtain ⟨n_a0, b_a0⟩ := mPot hM (noLoad_ok (le0 hn0))
      have bb_a0 := hM.2
      refine gx_aload_n (q := 0) C dX7_doOrder_131 rfl ?_
      refine gx_aload_n (q := 0) C dX7_doOrder_132 rfl ?_
      refine gx_get C (i := 10) (isMS_in hW 0 (Nat.le_of_ble_eq_true rfl)) (isMS_0 hW) rfl in_X7_doOrder_7 (by decide) fl_X7_doOrder_212 rfl dX7_doOrder_133 ?_
      refine gx_top a0 h5 ?_
      refine gx_callSi C hD (gFr_rf (f := f)) (k_X7_doLoad l hL hW hM _ (i := (cl a0)) n_a0 (by omega)) (isMS_in hW 0 (Nat.le_of_ble_eq_true rfl)) (isMS_0 hW) rfl (cwV 1 C.2.2.2.2.1 gX7_doOrder_X7_doLoad rfl rfl rfl kdV_X7_doLoad ⟨Nat.le_of_ble_eq_true rfl, Nat.le_of_ble_eq_true rfl⟩) rfl rfl (Nat.le_of_ble_eq_true rfl) ⟨Nat.le_of_ble_eq_true rfl, Nat.le_of_ble_eq_true rfl⟩ dX7_doOrder_136 (fun f_12 hW_12 hF_12 => ?_)
      exact gx_iretS C hr hW_12 hF_12 dX7_doOrder_139 ((if_neg n4_98).trans ((if_neg n4_99).trans ((if_neg n4_100).trans ((if_neg n4_101).trans ((if_neg n4_102).trans ((if_neg n4_103).trans ((if_neg n4_104).trans ((if_neg n4_105).trans ((if_neg n4_106).trans ((if_neg n4_107).trans ((if_pos e4_108).trans (rfl)))))))))))).symm ((if_neg n4_98).trans ((if_neg n4_99).trans ((if_neg n4_100).trans ((if_neg n4_101).trans ((if_neg n4_102).trans ((if_neg n4_103).trans ((if_neg n4_104).trans ((if_neg n4_105).trans ((if_neg n4_106).trans ((if_neg n4_107).trans ((if_pos e4_108).trans (rfl)))))))))))).symm
    · skip
      refine gx_tableIn (off := 167) (tgt := 171) C dX7_doOrder_4 (by rw [sw_4]; decide) (by rw [sw_4]; decide) (by rw [sw_4]; rfl) (by decide) ?_
      have e4_109 : kd = 109 := gsw_eq sw_4 (by decide)
      have n4_98 : ¬ kd = 98 := gsw_n2 e4_109 (by decide)
      have n4_99 : ¬ kd = 99 := gsw_n2 e4_109 (by decide)
      have n4_100 : ¬ kd = 100 := gsw_n2 e4_109 (by decide)
      have n4_101 : ¬ kd = 101 := gsw_n2 e4_109 (by decide)
      have n4_102 : ¬ kd = 102 := gsw_n2 e4_109 (by decide)
      have n4_103 : ¬ kd = 103 := gsw_n2 e4_109 (by decide)
      have n4_104 : ¬ kd = 104 := gsw_n2 e4_109 (by decide)
      have n4_105 : ¬ kd = 105 := gsw_n2 e4_109 (by decide)
      have n4_106 : ¬ kd = 106 := gsw_n2 e4_109 (by decide)
      have n4_107 : ¬ kd = 107 := gsw_n2 e4_109 (by decide)
      have n4_108 : ¬ kd = 108 := gsw_n2 e4_109 (by decide)
      have hn0 : vX7_noTakeHome y a0 = 0 := (show vX7_noOrder y kd a0 b0 c0 = _ from (if_neg n4_98).trans ((if_neg n4_99).trans ((if_neg n4_100).trans ((if_neg n4_101).trans ((if_neg n4_102).trans ((if_neg n4_103).trans ((if_neg n4_104).trans ((if_neg n4_105).trans ((if_neg n4_106).trans ((if_neg n4_107).trans ((if_neg n4_108).trans ((if_pos e4_109).trans (rfl))))))))))))).symm.trans hno
      obtain ⟨n_a0, b_a0⟩ := mPot hM (noTake_ok (le0 hn0))
      have bb_a0 := hM.2
      have hPu1 : hPu y (cl a0) := hPa (cl a0) b_a0
      refine gx_aload_n (q := 0) C dX7_doOrder_171 rfl ?_
      refine gx_aload_n (q := 0) C dX7_doOrder_172 rfl ?_
      refine gx_get C (i := 10) (isMS_in hW 0 (Nat.le_of_ble_eq_true rfl)) (isMS_0 hW) rfl in_X7_doOrder_7 (by decide) fl_X7_doOrder_212 rfl dX7_doOrder_173 ?_
      refine gx_top a0 h5 ?_
      refine gx_callSi C hD (gFr_rf (f := f)) (k_X7_doTakeHome l hL hW _ (i := (cl a0)) n_a0 (by omega) hPu1) (isMS_in hW 0 (Nat.le_of_ble_eq_true rfl)) (isMS_0 hW) rfl (cwV 1 C.2.2.2.2.1 gX7_doOrder_X7_doTakeHome rfl rfl rfl kdV_X7_doTakeHome ⟨Nat.le_of_ble_eq_true rfl, Nat.le_of_ble_eq_true rfl⟩) rfl rfl (Nat.le_of_ble_eq_true rfl) ⟨Nat.le_of_ble_eq_true rfl, Nat.le_of_ble_eq_true rfl⟩ dX7_doOrder_176 (fun f_13 hW_13 hF_13 => ?_)
      exact gx_iretS C hr hW_13 hF_13 dX7_doOrder_179 ((if_neg n4_98).trans ((if_neg n4_99).trans ((if_neg n4_100).trans ((if_neg n4_101).trans ((if_neg n4_102).trans ((if_neg n4_103).trans ((if_neg n4_104).trans ((if_neg n4_105).trans ((if_neg n4_106).trans ((if_neg n4_107).trans ((if_neg n4_108).trans ((if_pos e4_109).trans (rfl))))))))))))).symm ((if_neg n4_98).trans ((if_neg n4_99).trans ((if_neg n4_100).trans ((if_neg n4_101).trans ((if_neg n4_102).trans ((if_neg n4_103).trans ((if_neg n4_104).trans ((if_neg n4_105).trans ((if_neg n4_106).trans ((if_neg n4_107).trans ((if_neg n4_108).trans ((if_pos e4_109).trans (rfl))))))))))))).symm
    · skip
      refine gx_tableIn (off := 158) (tgt := 162) C dX7_doOrder_4 (by rw [sw_4]; decide) (by rw [sw_4]; decide) (by rw [sw_4]; rfl) (by decide) ?_
      have e4_110 : kd = 110 := gsw_eq sw_4 (by decide)
      have n4_98 : ¬ kd = 98 := gsw_n2 e4_110 (by decide)
      have n4_99 : ¬ kd = 99 := gsw_n2 e4_110 (by decide)
      have n4_100 : ¬ kd = 100 := gsw_n2 e4_110 (by decide)
      have n4_101 : ¬ kd = 101 := gsw_n2 e4_110 (by decide)
      have n4_102 : ¬ kd = 102 := gsw_n2 e4_110 (by decide)
      have n4_103 : ¬ kd = 103 := gsw_n2 e4_110 (by decide)
      have n4_104 : ¬ kd = 104 := gsw_n2 e4_110 (by decide)
      have n4_105 : ¬ kd = 105 := gsw_n2 e4_110 (by decide)
      have n4_106 : ¬ kd = 106 := gsw_n2 e4_110 (by decide)
      have n4_107 : ¬ kd = 107 := gsw_n2 e4_110 (by decide)
      have n4_108 : ¬ kd = 108 := gsw_n2 e4_110 (by decide)
      have n4_109 : ¬ kd = 109 := gsw_n2 e4_110 (by decide)
      have hn0 : vX7_noPass y a0 = 0 := (show vX7_noOrder y kd a0 b0 c0 = _ from (if_neg n4_98).trans ((if_neg n4_99).trans ((if_neg n4_100).trans ((if_neg n4_101).trans ((if_neg n4_102).trans ((if_neg n4_103).trans ((if_neg n4_104).trans ((if_neg n4_105).trans ((if_neg n4_106).trans ((if_neg n4_107).trans ((if_neg n4_108).trans ((if_neg n4_109).trans ((if_pos e4_110).trans (rfl)))))))))))))).symm.trans hno
      obtain ⟨n_a0, -, b_a0⟩ := isW_nat (lo := 1) (hi := 20) (by decide) (by decide) (noPass_ok (le0 hn0))
      refine gx_aload_n (q := 0) C dX7_doOrder_162 rfl ?_
      refine gx_aload_n (q := 0) C dX7_doOrder_163 rfl ?_
      refine gx_get C (i := 10) (isMS_in hW 0 (Nat.le_of_ble_eq_true rfl)) (isMS_0 hW) rfl in_X7_doOrder_7 (by decide) fl_X7_doOrder_212 rfl dX7_doOrder_164 ?_
      refine gx_top a0 h5 ?_
      refine gx_callSi C hD (gFr_rf (f := f)) (k_X7_doPass l hL hW hM _ (j := (cl a0)) n_a0 (by omega)) (isMS_in hW 0 (Nat.le_of_ble_eq_true rfl)) (isMS_0 hW) rfl (cwV 1 C.2.2.2.2.1 gX7_doOrder_X7_doPass rfl rfl rfl kdV_X7_doPass ⟨Nat.le_of_ble_eq_true rfl, Nat.le_of_ble_eq_true rfl⟩) rfl rfl (Nat.le_of_ble_eq_true rfl) ⟨Nat.le_of_ble_eq_true rfl, Nat.le_of_ble_eq_true rfl⟩ dX7_doOrder_167 (fun f_14 hW_14 hF_14 => ?_)
      exact gx_iretS C hr hW_14 hF_14 dX7_doOrder_170 ((if_neg n4_98).trans ((if_neg n4_99).trans ((if_neg n4_100).trans ((if_neg n4_101).trans ((if_neg n4_102).trans ((if_neg n4_103).trans ((if_neg n4_104).trans ((if_neg n4_105).trans ((if_neg n4_106).trans ((if_neg n4_107).trans ((if_neg n4_108).trans ((if_neg n4_109).trans ((if_pos e4_110).trans (rfl)))))))))))))).symm ((if_neg n4_98).trans ((if_neg n4_99).trans ((if_neg n4_100).trans ((if_neg n4_101).trans ((if_neg n4_102).trans ((if_neg n4_103).trans ((if_neg n4_104).trans ((if_neg n4_105).trans ((if_neg n4_106).trans ((if_neg n4_107).trans ((if_neg n4_108).trans ((if_neg n4_109).trans ((if_pos e4_110).trans (rfl)))))))))))))).symm
    · skip
      refine gx_tableIn (off := 167) (tgt := 171) C dX7_doOrder_4 (by rw [sw_4]; decide) (by rw [sw_4]; decide) (by rw [sw_4]; rfl) (by decide) ?_
      have e4_111 : kd = 111 := gsw_eq sw_4 (by decide)
      have n4_98 : ¬ kd = 98 := gsw_n2 e4_111 (by decide)
      have n4_99 : ¬ kd = 99 := gsw_n2 e4_111 (by decide)
      have n4_100 : ¬ kd = 100 := gsw_n2 e4_111 (by decide)
      have n4_101 : ¬ kd = 101 := gsw_n2 e4_111 (by decide)
      have n4_102 : ¬ kd = 102 := gsw_n2 e4_111 (by decide)
      have n4_103 : ¬ kd = 103 := gsw_n2 e4_111 (by decide)
      have n4_104 : ¬ kd = 104 := gsw_n2 e4_111 (by decide)
      have n4_105 : ¬ kd = 105 := gsw_n2 e4_111 (by decide)
      have n4_106 : ¬ kd = 106 := gsw_n2 e4_111 (by decide)
      have n4_107 : ¬ kd = 107 := gsw_n2 e4_111 (by decide)
      have n4_108 : ¬ kd = 108 := gsw_n2 e4_111 (by decide)
      have n4_109 : ¬ kd = 109 := gsw_n2 e4_111 (by decide)
      have n4_110 : ¬ kd = 110 := gsw_n2 e4_111 (by decide)
      have hn0 : vX7_noTakeHome y a0 = 0 := (show vX7_noOrder y kd a0 b0 c0 = _ from (if_neg n4_98).trans ((if_neg n4_99).trans ((if_neg n4_100).trans ((if_neg n4_101).trans ((if_neg n4_102).trans ((if_neg n4_103).trans ((if_neg n4_104).trans ((if_neg n4_105).trans ((if_neg n4_106).trans ((if_neg n4_107).trans ((if_neg n4_108).trans ((if_neg n4_109).trans ((if_neg n4_110).trans ((if_pos e4_111).trans (rfl))))))))))))))).symm.trans hno
      obtain ⟨n_a0, b_a0⟩ := mPot hM (noTake_ok (le0 hn0))
      have bb_a0 := hM.2
      have hPu1 : hPu y (cl a0) := hPa (cl a0) b_a0
      refine gx_aload_n (q := 0) C dX7_doOrder_171 rfl ?_
      refine gx_aload_n (q := 0) C dX7_doOrder_172 rfl ?_
      refine gx_get C (i := 10) (isMS_in hW 0 (Nat.le_of_ble_eq_true rfl)) (isMS_0 hW) rfl in_X7_doOrder_7 (by decide) fl_X7_doOrder_212 rfl dX7_doOrder_173 ?_
      refine gx_top a0 h5 ?_
      refine gx_callSi C hD (gFr_rf (f := f)) (k_X7_doTakeHome l hL hW _ (i := (cl a0)) n_a0 (by omega) hPu1) (isMS_in hW 0 (Nat.le_of_ble_eq_true rfl)) (isMS_0 hW) rfl (cwV 1 C.2.2.2.2.1 gX7_doOrder_X7_doTakeHome rfl rfl rfl kdV_X7_doTakeHome ⟨Nat.le_of_ble_eq_true rfl, Nat.le_of_ble_eq_true rfl⟩) rfl rfl (Nat.le_of_ble_eq_true rfl) ⟨Nat.le_of_ble_eq_true rfl, Nat.le_of_ble_eq_true rfl⟩ dX7_doOrder_176 (fun f_15 hW_15 hF_15 => ?_)
      exact gx_iretS C hr hW_15 hF_15 dX7_doOrder_179 ((if_neg n4_98).trans ((if_neg n4_99).trans ((if_neg n4_100).trans ((if_neg n4_101).trans ((if_neg n4_102).trans ((if_neg n4_103).trans ((if_neg n4_104).trans ((if_neg n4_105).trans ((if_neg n4_106).trans ((if_neg n4_107).trans ((if_neg n4_108).trans ((if_neg n4_109).trans ((if_neg n4_110).trans ((if_pos e4_111).trans (rfl))))))))))))))).symm ((if_neg n4_98).trans ((if_neg n4_99).trans ((if_neg n4_100).trans ((if_neg n4_101).trans ((if_neg n4_102).trans ((if_neg n4_103).trans ((if_neg n4_104).trans ((if_neg n4_105).trans ((if_neg n4_106).trans ((if_neg n4_107).trans ((if_neg n4_108).trans ((if_neg n4_109).trans ((if_neg n4_110).trans ((if_pos e4_111).trans (rfl))))))))))))))).symm
    · skip
      refine gx_tableIn (off := 92) (tgt := 96) C dX7_doOrder_4 (by rw [sw_4]; decide) (by rw [sw_4]; decide) (by rw [sw_4]; rfl) (by decide) ?_
      have e4_112 : kd = 112 := gsw_eq sw_4 (by decide)
      have n4_98 : ¬ kd = 98 := gsw_n2 e4_112 (by decide)
      have n4_99 : ¬ kd = 99 := gsw_n2 e4_112 (by decide)
      have n4_100 : ¬ kd = 100 := gsw_n2 e4_112 (by decide)
      have n4_101 : ¬ kd = 101 := gsw_n2 e4_112 (by decide)
      have n4_102 : ¬ kd = 102 := gsw_n2 e4_112 (by decide)
      have n4_103 : ¬ kd = 103 := gsw_n2 e4_112 (by decide)
      have n4_104 : ¬ kd = 104 := gsw_n2 e4_112 (by decide)
      have n4_105 : ¬ kd = 105 := gsw_n2 e4_112 (by decide)
      have n4_106 : ¬ kd = 106 := gsw_n2 e4_112 (by decide)
      have n4_107 : ¬ kd = 107 := gsw_n2 e4_112 (by decide)
      have n4_108 : ¬ kd = 108 := gsw_n2 e4_112 (by decide)
      have n4_109 : ¬ kd = 109 := gsw_n2 e4_112 (by decide)
      have n4_110 : ¬ kd = 110 := gsw_n2 e4_112 (by decide)
      have n4_111 : ¬ kd = 111 := gsw_n2 e4_112 (by decide)
      refine gx_aload_n (q := 0) C dX7_doOrder_96 rfl ?_
      refine gx_callSi C hD (gFr_rf (f := f)) (k_X7_doPupil l hL hW) (isMS_in hW 0 (Nat.le_of_ble_eq_true rfl)) (isMS_0 hW) rfl (cwV 0 C.2.2.2.2.1 gX7_doOrder_X7_doPupil rfl rfl rfl kdV_X7_doPupil ⟨Nat.le_of_ble_eq_true rfl, Nat.le_of_ble_eq_true rfl⟩) rfl rfl (Nat.le_of_ble_eq_true rfl) ⟨Nat.le_of_ble_eq_true rfl, Nat.le_of_ble_eq_true rfl⟩ dX7_doOrder_97 (fun f_16 hW_16 hF_16 => ?_)
      exact gx_iretS C hr hW_16 hF_16 dX7_doOrder_100 ((if_neg n4_98).trans ((if_neg n4_99).trans ((if_neg n4_100).trans ((if_neg n4_101).trans ((if_neg n4_102).trans ((if_neg n4_103).trans ((if_neg n4_104).trans ((if_neg n4_105).trans ((if_neg n4_106).trans ((if_neg n4_107).trans ((if_neg n4_108).trans ((if_neg n4_109).trans ((if_neg n4_110).trans ((if_neg n4_111).trans ((if_pos e4_112).trans (rfl)))))))))))))))).symm ((if_neg n4_98).trans ((if_neg n4_99).trans ((if_neg n4_100).trans ((if_neg n4_101).trans ((if_neg n4_102).trans ((if_neg n4_103).trans ((if_neg n4_104).trans ((if_neg n4_105).trans ((if_neg n4_106).trans ((if_neg n4_107).trans ((if_neg n4_108).trans ((if_neg n4_109).trans ((if_neg n4_110).trans ((if_neg n4_111).trans ((if_pos e4_112).trans (rfl)))))))))))))))).symm
    · skip
      refine gx_tableIn (off := 167) (tgt := 171) C dX7_doOrder_4 (by rw [sw_4]; decide) (by rw [sw_4]; decide) (by rw [sw_4]; rfl) (by decide) ?_
      have e4_113 : kd = 113 := gsw_eq sw_4 (by decide)
      have n4_98 : ¬ kd = 98 := gsw_n2 e4_113 (by decide)
      have n4_99 : ¬ kd = 99 := gsw_n2 e4_113 (by decide)
      have n4_100 : ¬ kd = 100 := gsw_n2 e4_113 (by decide)
      have n4_101 : ¬ kd = 101 := gsw_n2 e4_113 (by decide)
      have n4_102 : ¬ kd = 102 := gsw_n2 e4_113 (by decide)
      have n4_103 : ¬ kd = 103 := gsw_n2 e4_113 (by decide)
      have n4_104 : ¬ kd = 104 := gsw_n2 e4_113 (by decide)
      have n4_105 : ¬ kd = 105 := gsw_n2 e4_113 (by decide)
      have n4_106 : ¬ kd = 106 := gsw_n2 e4_113 (by decide)
      have n4_107 : ¬ kd = 107 := gsw_n2 e4_113 (by decide)
      have n4_108 : ¬ kd = 108 := gsw_n2 e4_113 (by decide)
      have n4_109 : ¬ kd = 109 := gsw_n2 e4_113 (by decide)
      have n4_110 : ¬ kd = 110 := gsw_n2 e4_113 (by decide)
      have n4_111 : ¬ kd = 111 := gsw_n2 e4_113 (by decide)
      have n4_112 : ¬ kd = 112 := gsw_n2 e4_113 (by decide)
      have hn0 : vX7_noTakeHome y a0 = 0 := (show vX7_noOrder y kd a0 b0 c0 = _ from (if_neg n4_98).trans ((if_neg n4_99).trans ((if_neg n4_100).trans ((if_neg n4_101).trans ((if_neg n4_102).trans ((if_neg n4_103).trans ((if_neg n4_104).trans ((if_neg n4_105).trans ((if_neg n4_106).trans ((if_neg n4_107).trans ((if_neg n4_108).trans ((if_neg n4_109).trans ((if_neg n4_110).trans ((if_neg n4_111).trans ((if_neg n4_112).trans ((if_pos e4_113).trans (rfl))))))))))))))))).symm.trans hno
      obtain ⟨n_a0, b_a0⟩ := mPot hM (noTake_ok (le0 hn0))
      have bb_a0 := hM.2
      have hPu1 : hPu y (cl a0) := hPa (cl a0) b_a0
      refine gx_aload_n (q := 0) C dX7_doOrder_171 rfl ?_
      refine gx_aload_n (q := 0) C dX7_doOrder_172 rfl ?_
      refine gx_get C (i := 10) (isMS_in hW 0 (Nat.le_of_ble_eq_true rfl)) (isMS_0 hW) rfl in_X7_doOrder_7 (by decide) fl_X7_doOrder_212 rfl dX7_doOrder_173 ?_
      refine gx_top a0 h5 ?_
      refine gx_callSi C hD (gFr_rf (f := f)) (k_X7_doTakeHome l hL hW _ (i := (cl a0)) n_a0 (by omega) hPu1) (isMS_in hW 0 (Nat.le_of_ble_eq_true rfl)) (isMS_0 hW) rfl (cwV 1 C.2.2.2.2.1 gX7_doOrder_X7_doTakeHome rfl rfl rfl kdV_X7_doTakeHome ⟨Nat.le_of_ble_eq_true rfl, Nat.le_of_ble_eq_true rfl⟩) rfl rfl (Nat.le_of_ble_eq_true rfl) ⟨Nat.le_of_ble_eq_true rfl, Nat.le_of_ble_eq_true rfl⟩ dX7_doOrder_176 (fun f_17 hW_17 hF_17 => ?_)
      exact gx_iretS C hr hW_17 hF_17 dX7_doOrder_179 ((if_neg n4_98).trans ((if_neg n4_99).trans ((if_neg n4_100).trans ((if_neg n4_101).trans ((if_neg n4_102).trans ((if_neg n4_103).trans ((if_neg n4_104).trans ((if_neg n4_105).trans ((if_neg n4_106).trans ((if_neg n4_107).trans ((if_neg n4_108).trans ((if_neg n4_109).trans ((if_neg n4_110).trans ((if_neg n4_111).trans ((if_neg n4_112).trans ((if_pos e4_113).trans (rfl))))))))))))))))).symm ((if_neg n4_98).trans ((if_neg n4_99).trans ((if_neg n4_100).trans ((if_neg n4_101).trans ((if_neg n4_102).trans ((if_neg n4_103).trans ((if_neg n4_104).trans ((if_neg n4_105).trans ((if_neg n4_106).trans ((if_neg n4_107).trans ((if_neg n4_108).trans ((if_neg n4_109).trans ((if_neg n4_110).trans ((if_neg n4_111).trans ((if_neg n4_112).trans ((if_pos e4_113).trans (rfl))))))))))))))))).symm
    · skip
      refine gx_tableIn (off := 167) (tgt := 171) C dX7_doOrder_4 (by rw [sw_4]; decide) (by rw [sw_4]; decide) (by rw [sw_4]; rfl) (by decide) ?_
      have e4_114 : kd = 114 := gsw_eq sw_4 (by decide)
      have n4_98 : ¬ kd = 98 := gsw_n2 e4_114 (by decide)
      have n4_99 : ¬ kd = 99 := gsw_n2 e4_114 (by decide)
      have n4_100 : ¬ kd = 100 := gsw_n2 e4_114 (by decide)
      have n4_101 : ¬ kd = 101 := gsw_n2 e4_114 (by decide)
      have n4_102 : ¬ kd = 102 := gsw_n2 e4_114 (by decide)
      have n4_103 : ¬ kd = 103 := gsw_n2 e4_114 (by decide)
      have n4_104 : ¬ kd = 104 := gsw_n2 e4_114 (by decide)
      have n4_105 : ¬ kd = 105 := gsw_n2 e4_114 (by decide)
      have n4_106 : ¬ kd = 106 := gsw_n2 e4_114 (by decide)
      have n4_107 : ¬ kd = 107 := gsw_n2 e4_114 (by decide)
      have n4_108 : ¬ kd = 108 := gsw_n2 e4_114 (by decide)
      have n4_109 : ¬ kd = 109 := gsw_n2 e4_114 (by decide)
      have n4_110 : ¬ kd = 110 := gsw_n2 e4_114 (by decide)
      have n4_111 : ¬ kd = 111 := gsw_n2 e4_114 (by decide)
      have n4_112 : ¬ kd = 112 := gsw_n2 e4_114 (by decide)
      have n4_113 : ¬ kd = 113 := gsw_n2 e4_114 (by decide)
      have hn0 : vX7_noTakeHome y a0 = 0 := (show vX7_noOrder y kd a0 b0 c0 = _ from (if_neg n4_98).trans ((if_neg n4_99).trans ((if_neg n4_100).trans ((if_neg n4_101).trans ((if_neg n4_102).trans ((if_neg n4_103).trans ((if_neg n4_104).trans ((if_neg n4_105).trans ((if_neg n4_106).trans ((if_neg n4_107).trans ((if_neg n4_108).trans ((if_neg n4_109).trans ((if_neg n4_110).trans ((if_neg n4_111).trans ((if_neg n4_112).trans ((if_neg n4_113).trans ((if_pos e4_114).trans (rfl)))))))))))))))))).symm.trans hno
      obtain ⟨n_a0, b_a0⟩ := mPot hM (noTake_ok (le0 hn0))
      have bb_a0 := hM.2
      have hPu1 : hPu y (cl a0) := hPa (cl a0) b_a0
      refine gx_aload_n (q := 0) C dX7_doOrder_171 rfl ?_
      refine gx_aload_n (q := 0) C dX7_doOrder_172 rfl ?_
      refine gx_get C (i := 10) (isMS_in hW 0 (Nat.le_of_ble_eq_true rfl)) (isMS_0 hW) rfl in_X7_doOrder_7 (by decide) fl_X7_doOrder_212 rfl dX7_doOrder_173 ?_
      refine gx_top a0 h5 ?_
      refine gx_callSi C hD (gFr_rf (f := f)) (k_X7_doTakeHome l hL hW _ (i := (cl a0)) n_a0 (by omega) hPu1) (isMS_in hW 0 (Nat.le_of_ble_eq_true rfl)) (isMS_0 hW) rfl (cwV 1 C.2.2.2.2.1 gX7_doOrder_X7_doTakeHome rfl rfl rfl kdV_X7_doTakeHome ⟨Nat.le_of_ble_eq_true rfl, Nat.le_of_ble_eq_true rfl⟩) rfl rfl (Nat.le_of_ble_eq_true rfl) ⟨Nat.le_of_ble_eq_true rfl, Nat.le_of_ble_eq_true rfl⟩ dX7_doOrder_176 (fun f_18 hW_18 hF_18 => ?_)
      exact gx_iretS C hr hW_18 hF_18 dX7_doOrder_179 ((if_neg n4_98).trans ((if_neg n4_99).trans ((if_neg n4_100).trans ((if_neg n4_101).trans ((if_neg n4_102).trans ((if_neg n4_103).trans ((if_neg n4_104).trans ((if_neg n4_105).trans ((if_neg n4_106).trans ((if_neg n4_107).trans ((if_neg n4_108).trans ((if_neg n4_109).trans ((if_neg n4_110).trans ((if_neg n4_111).trans ((if_neg n4_112).trans ((if_neg n4_113).trans ((if_pos e4_114).trans (rfl)))))))))))))))))).symm ((if_neg n4_98).trans ((if_neg n4_99).trans ((if_neg n4_100).trans ((if_neg n4_101).trans ((if_neg n4_102).trans ((if_neg n4_103).trans ((if_neg n4_104).trans ((if_neg n4_105).trans ((if_neg n4_106).trans ((if_neg n4_107).trans ((if_neg n4_108).trans ((if_neg n4_109).trans ((if_neg n4_110).trans ((if_neg n4_111).trans ((if_neg n4_112).trans ((if_neg n4_113).trans ((if_pos e4_114).trans (rfl)))))))))))))))))).symm
    · skip
      refine gx_tableIn (off := 167) (tgt := 171) C dX7_doOrder_4 (by rw [sw_4]; decide) (by rw [sw_4]; decide) (by rw [sw_4]; rfl) (by decide) ?_
      have e4_115 : kd = 115 := gsw_eq sw_4 (by decide)
      have n4_98 : ¬ kd = 98 := gsw_n2 e4_115 (by decide)
      have n4_99 : ¬ kd = 99 := gsw_n2 e4_115 (by decide)
      have n4_100 : ¬ kd = 100 := gsw_n2 e4_115 (by decide)
      have n4_101 : ¬ kd = 101 := gsw_n2 e4_115 (by decide)
      have n4_102 : ¬ kd = 102 := gsw_n2 e4_115 (by decide)
      have n4_103 : ¬ kd = 103 := gsw_n2 e4_115 (by decide)
      have n4_104 : ¬ kd = 104 := gsw_n2 e4_115 (by decide)
      have n4_105 : ¬ kd = 105 := gsw_n2 e4_115 (by decide)
      have n4_106 : ¬ kd = 106 := gsw_n2 e4_115 (by decide)
      have n4_107 : ¬ kd = 107 := gsw_n2 e4_115 (by decide)
      have n4_108 : ¬ kd = 108 := gsw_n2 e4_115 (by decide)
      have n4_109 : ¬ kd = 109 := gsw_n2 e4_115 (by decide)
      have n4_110 : ¬ kd = 110 := gsw_n2 e4_115 (by decide)
      have n4_111 : ¬ kd = 111 := gsw_n2 e4_115 (by decide)
      have n4_112 : ¬ kd = 112 := gsw_n2 e4_115 (by decide)
      have n4_113 : ¬ kd = 113 := gsw_n2 e4_115 (by decide)
      have n4_114 : ¬ kd = 114 := gsw_n2 e4_115 (by decide)
      have hn0 : vX7_noTakeHome y a0 = 0 := (show vX7_noOrder y kd a0 b0 c0 = _ from (if_neg n4_98).trans ((if_neg n4_99).trans ((if_neg n4_100).trans ((if_neg n4_101).trans ((if_neg n4_102).trans ((if_neg n4_103).trans ((if_neg n4_104).trans ((if_neg n4_105).trans ((if_neg n4_106).trans ((if_neg n4_107).trans ((if_neg n4_108).trans ((if_neg n4_109).trans ((if_neg n4_110).trans ((if_neg n4_111).trans ((if_neg n4_112).trans ((if_neg n4_113).trans ((if_neg n4_114).trans ((if_pos e4_115).trans (rfl))))))))))))))))))).symm.trans hno
      obtain ⟨n_a0, b_a0⟩ := mPot hM (noTake_ok (le0 hn0))
      have bb_a0 := hM.2
      have hPu1 : hPu y (cl a0) := hPa (cl a0) b_a0
      refine gx_aload_n (q := 0) C dX7_doOrder_171 rfl ?_
      refine gx_aload_n (q := 0) C dX7_doOrder_172 rfl ?_
      refine gx_get C (i := 10) (isMS_in hW 0 (Nat.le_of_ble_eq_true rfl)) (isMS_0 hW) rfl in_X7_doOrder_7 (by decide) fl_X7_doOrder_212 rfl dX7_doOrder_173 ?_
      refine gx_top a0 h5 ?_
      refine gx_callSi C hD (gFr_rf (f := f)) (k_X7_doTakeHome l hL hW _ (i := (cl a0)) n_a0 (by omega) hPu1) (isMS_in hW 0 (Nat.le_of_ble_eq_true rfl)) (isMS_0 hW) rfl (cwV 1 C.2.2.2.2.1 gX7_doOrder_X7_doTakeHome rfl rfl rfl kdV_X7_doTakeHome ⟨Nat.le_of_ble_eq_true rfl, Nat.le_of_ble_eq_true rfl⟩) rfl rfl (Nat.le_of_ble_eq_true rfl) ⟨Nat.le_of_ble_eq_true rfl, Nat.le_of_ble_eq_true rfl⟩ dX7_doOrder_176 (fun f_19 hW_19 hF_19 => ?_)
      exact gx_iretS C hr hW_19 hF_19 dX7_doOrder_179 ((if_neg n4_98).trans ((if_neg n4_99).trans ((if_neg n4_100).trans ((if_neg n4_101).trans ((if_neg n4_102).trans ((if_neg n4_103).trans ((if_neg n4_104).trans ((if_neg n4_105).trans ((if_neg n4_106).trans ((if_neg n4_107).trans ((if_neg n4_108).trans ((if_neg n4_109).trans ((if_neg n4_110).trans ((if_neg n4_111).trans ((if_neg n4_112).trans ((if_neg n4_113).trans ((if_neg n4_114).trans ((if_pos e4_115).trans (rfl))))))))))))))))))).symm ((if_neg n4_98).trans ((if_neg n4_99).trans ((if_neg n4_100).trans ((if_neg n4_101).trans ((if_neg n4_102).trans ((if_neg n4_103).trans ((if_neg n4_104).trans ((if_neg n4_105).trans ((if_neg n4_106).trans ((if_neg n4_107).trans ((if_neg n4_108).trans ((if_neg n4_109).trans ((if_neg n4_110).trans ((if_neg n4_111).trans ((if_neg n4_112).trans ((if_neg n4_113).trans ((if_neg n4_114).trans ((if_pos e4_115).trans (rfl))))))))))))))))))).symm
    · skip
      refine gx_tableIn (off := 114) (tgt := 118) C dX7_doOrder_4 (by rw [sw_4]; decide) (by rw [sw_4]; decide) (by rw [sw_4]; rfl) (by decide) ?_
      have e4_116 : kd = 116 := gsw_eq sw_4 (by decide)
      have n4_98 : ¬ kd = 98 := gsw_n2 e4_116 (by decide)
      have n4_99 : ¬ kd = 99 := gsw_n2 e4_116 (by decide)
      have n4_100 : ¬ kd = 100 := gsw_n2 e4_116 (by decide)
      have n4_101 : ¬ kd = 101 := gsw_n2 e4_116 (by decide)
      have n4_102 : ¬ kd = 102 := gsw_n2 e4_116 (by decide)
      have n4_103 : ¬ kd = 103 := gsw_n2 e4_116 (by decide)
      have n4_104 : ¬ kd = 104 := gsw_n2 e4_116 (by decide)
      have n4_105 : ¬ kd = 105 := gsw_n2 e4_116 (by decide)
      have n4_106 : ¬ kd = 106 := gsw_n2 e4_116 (by decide)
      have n4_107 : ¬ kd = 107 := gsw_n2 e4_116 (by decide)
      have n4_108 : ¬ kd = 108 := gsw_n2 e4_116 (by decide)
      have n4_109 : ¬ kd = 109 := gsw_n2 e4_116 (by decide)
      have n4_110 : ¬ kd = 110 := gsw_n2 e4_116 (by decide)
      have n4_111 : ¬ kd = 111 := gsw_n2 e4_116 (by decide)
      have n4_112 : ¬ kd = 112 := gsw_n2 e4_116 (by decide)
      have n4_113 : ¬ kd = 113 := gsw_n2 e4_116 (by decide)
      have n4_114 : ¬ kd = 114 := gsw_n2 e4_116 (by decide)
      have n4_115 : ¬ kd = 115 := gsw_n2 e4_116 (by decide)
      have hn0 : vX7_noThrow y a0 b0 = 0 := (show vX7_noOrder y kd a0 b0 c0 = _ from (if_neg n4_98).trans ((if_neg n4_99).trans ((if_neg n4_100).trans ((if_neg n4_101).trans ((if_neg n4_102).trans ((if_neg n4_103).trans ((if_neg n4_104).trans ((if_neg n4_105).trans ((if_neg n4_106).trans ((if_neg n4_107).trans ((if_neg n4_108).trans ((if_neg n4_109).trans ((if_neg n4_110).trans ((if_neg n4_111).trans ((if_neg n4_112).trans ((if_neg n4_113).trans ((if_neg n4_114).trans ((if_neg n4_115).trans ((if_pos e4_116).trans (rfl)))))))))))))))))))).symm.trans hno
      obtain ⟨hp1, hp2⟩ := noThrow_ok hM (le0 hn0)
      obtain ⟨n_a0, b_a0⟩ := mPupil hQ hp1
      have bb_a0 := hQ.2
      refine gx_aload_n (q := 0) C dX7_doOrder_118 rfl ?_
      refine gx_aload_n (q := 0) C dX7_doOrder_119 rfl ?_
      refine gx_get C (i := 10) (isMS_in hW 0 (Nat.le_of_ble_eq_true rfl)) (isMS_0 hW) rfl in_X7_doOrder_7 (by decide) fl_X7_doOrder_212 rfl dX7_doOrder_120 ?_
      refine gx_top a0 h5 ?_
      refine gx_aload_n (q := 0) C dX7_doOrder_123 rfl ?_
      refine gx_get C (i := 11) (isMS_in hW 0 (Nat.le_of_ble_eq_true rfl)) (isMS_0 hW) rfl in_X7_doOrder_7 (by decide) fl_X7_doOrder_203 rfl dX7_doOrder_124 ?_
      refine gx_top b0 h6 ?_
      refine gx_callSi C hD (gFr_rf (f := f)) (k_X7_doThrow l hL hW hM hp2 _ _ (i := (cl a0)) n_a0 (by omega)) (isMS_in hW 0 (Nat.le_of_ble_eq_true rfl)) (isMS_0 hW) rfl (cwV 2 C.2.2.2.2.1 gX7_doOrder_X7_doThrow rfl rfl rfl kdV_X7_doThrow ⟨Nat.le_of_ble_eq_true rfl, Nat.le_of_ble_eq_true rfl⟩) rfl rfl (Nat.le_of_ble_eq_true rfl) ⟨Nat.le_of_ble_eq_true rfl, Nat.le_of_ble_eq_true rfl⟩ dX7_doOrder_127 (fun f_20 hW_20 hF_20 => ?_)
      exact gx_iretS C hr hW_20 hF_20 dX7_doOrder_130 ((if_neg n4_98).trans ((if_neg n4_99).trans ((if_neg n4_100).trans ((if_neg n4_101).trans ((if_neg n4_102).trans ((if_neg n4_103).trans ((if_neg n4_104).trans ((if_neg n4_105).trans ((if_neg n4_106).trans ((if_neg n4_107).trans ((if_neg n4_108).trans ((if_neg n4_109).trans ((if_neg n4_110).trans ((if_neg n4_111).trans ((if_neg n4_112).trans ((if_neg n4_113).trans ((if_neg n4_114).trans ((if_neg n4_115).trans ((if_pos e4_116).trans (rfl)))))))))))))))))))).symm ((if_neg n4_98).trans ((if_neg n4_99).trans ((if_neg n4_100).trans ((if_neg n4_101).trans ((if_neg n4_102).trans ((if_neg n4_103).trans ((if_neg n4_104).trans ((if_neg n4_105).trans ((if_neg n4_106).trans ((if_neg n4_107).trans ((if_neg n4_108).trans ((if_neg n4_109).trans ((if_neg n4_110).trans ((if_neg n4_111).trans ((if_neg n4_112).trans ((if_neg n4_113).trans ((if_neg n4_114).trans ((if_neg n4_115).trans ((if_pos e4_116).trans (rfl)))))))))))))))))))).symm
