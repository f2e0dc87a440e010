theorem kdN_X2_findFault : yX2_findFault.cls ≠ "java/lang/invoke/MethodHandle" ∧ yX2_findFault.cls ≠ "java/lang/invoke/VarHandle" ∧ (parseMethodDescriptor yX2_findFault.desc).map (fun d => d.parameters.length) = some 0 := by decide +kernel
theorem kdV_X2_findFault : yX2_findFault.cls = RX2 ∧ yX2_findFault.cls ≠ "java/lang/invoke/MethodHandle" ∧ yX2_findFault.cls ≠ "java/lang/invoke/VarHandle" ∧ (parseMethodDescriptor yX2_findFault.desc).map (fun d => d.parameters.length) = some 0 := ⟨rfl, kdN_X2_findFault⟩
def padEq (q q2 : DS) : Prop := q2.1 = q.1 ∧ q2.2 0 = q.2 0
theorem padEq_C (q : DS) (p : Nat) (kd a b c : Int32) : padEq q (dC q p kd a b c) := ⟨rfl, rfl⟩
theorem padEq_tr {q q2 q3 : DS} (h : padEq q q2) (h2 : padEq q2 q3) : padEq q q3 := ⟨h2.1.trans h.1, h2.2.trans h.2⟩
theorem in_X2_findFault_2 : ∀ w ∈ u_ws RX2 TX2 7, w ∈ wsX2_findFault := by decide +kernel
theorem fl_X2_findFault_52 : Cond.fieldLink RX2 52 (TX2 2).1 (TX2 2).2.1 (TX2 2).2.2.1 ∈ wsX2_findFault := by decide +kernel
theorem fl_X2_findFault_15 : Cond.fieldLink RX2 15 (TX2 1).1 (TX2 1).2.1 (TX2 1).2.2.1 ∈ wsX2_findFault := by decide +kernel
abbrev rmX2_findFault : Room := { frames := 5, cells := 0, slots := 0, locals := 106 }
set_option maxHeartbeats 4000000 in
set_option maxRecDepth 100000 in
theorem k_X2_findFault (l : Launch) {k : gK} {L : List Nat} {f : Nat → va_E} (hL : L.Nodup) {d : Nat → Nat} {q : DS} {n : Nat} (hW : isDS k L f d q) (hn : q.2 0 = nI n) (hn2 : n ≤ 80)  : kM l k L f yX2_findFault wsX2_findFault rmX2_findFault [.ref (d 0)] (fun v2 f2 => v2 = some (.int (flt (q.1 0) n 80 0)) ∧ ∃ q2, padEq q q2 ∧ isDS k L f2 d q2 ∧ gFr d 2 f f2) := by
  refine kM_of (cc := cX2_findFault) (maxL := 2) (ret := (some .int)) (by decide) rfl (Nat.le_of_ble_eq_true rfl) ?_
  intro p e s m args below meth c C hr
  have hD : gD (fun q => q ∈ L) L := ⟨hL, fun _ h => h⟩
  refine gx_lv [(0, _)] [0] rfl ?_
  refine gx_aload_n (q := 0) C dX2_findFault_0 rfl ?_
  refine gx_callM C hD (k_X2_rewindC l hL hW) (isDS_in hW 0 (Nat.le_of_ble_eq_true rfl)) (isDS_0 hW) rfl (cwV 0 C.2.2.2.2.1 gX2_findFault_X2_rewind rfl rfl rfl kdV_X2_rewind ⟨Nat.le_of_ble_eq_true rfl, Nat.le_of_ble_eq_true rfl⟩) rfl rfl (Nat.le_of_ble_eq_true rfl) ⟨Nat.le_of_ble_eq_true rfl, Nat.le_of_ble_eq_true rfl⟩ dX2_findFault_1 (fun v_1 f_1 hp_1 => ?_)
  rcases hp_1 with ⟨rfl, hW_1, hG_1⟩
  · skip
    have hF_1 := gFr_tr (gFr_rf (f := f)) hG_1
    refine gx_nil ?_
    refine gx_iconst (v := 0) C dX2_findFault_4 (by decide) ?_
    refine gx_istore_n C (i := 1) [(1, _), (0, _)] dX2_findFault_5 rfl (by decide) rfl ?_
    refine gx_loop (σ := Nat × Nat × (Nat → va_E)) (fun z => z.2.2) (fun z => [(0, .ref (d 0)), (1, .int (nI z.1))]) (fun z => z.1 ≤ 80 ∧ z.2.1 ≤ n ∧ flt (q.1 0) n (80 - z.1) z.2.1 = flt (q.1 0) n 80 0 ∧ ∃ kd2 a2 b2 c2, isDS k L z.2.2 d (dC q z.2.1 kd2 a2 b2 c2) ∧ gFr d 2 f z.2.2) (fun z => 80 - z.1) (0, 0, _) [1, 0] rfl rfl ?_ ?_
    · exact ⟨Nat.zero_le _, Nat.zero_le _, rfl, _, _, _, _, hW_1, hF_1⟩
    intro ⟨i, p1, fi⟩ ⟨hI, hp1, hfl, kd1, a1, b1, c1, hWi, hFi⟩ ih
    try dsimp only at hI hp1 hfl hWi hFi ih ⊢
    refine gx_iload_n (q := 1) C dX2_findFault_6 rfl ?_
    refine gx_bipush (v := 80) C dX2_findFault_7 (by decide) ?_
    refine gx_icmp_ge (tgt := 53) C dX2_findFault_9 (by decide) (fun c_9 => ?_) (fun c_9 => ?_)
    · skip
      have hb := (nI_leI (a := 80) (b := i) (by decide) (by omega)).mp c_9
      refine gx_aload_n (q := 0) C dX2_findFault_53 rfl ?_
      refine gx_get C (i := 2) (isDS_in hWi 0 (Nat.le_of_ble_eq_true rfl)) (isDS_0 hWi) rfl in_X2_findFault_2 (by decide) fl_X2_findFault_52 rfl dX2_findFault_54 ?_
      refine gx_top (nI p1) rfl ?_
      exact gx_iretM C hr dX2_findFault_57 ⟨by rw [← hfl, show i = 80 by omega]; rfl, _, padEq_C q _ _ _ _ _, hWi, hFi⟩
    · skip
      have hlt : i < 80 := Nat.lt_of_not_le (fun z => c_9 ((nI_leI (a := 80) (b := i) (by decide) (by omega)).mpr z))
      refine gx_aload_n (q := 0) C dX2_findFault_12 rfl ?_
      refine gx_callM C hD (k_X2_readOrder l hL hWi hn hn2 (by omega)) (isDS_in hWi 0 (Nat.le_of_ble_eq_true rfl)) (isDS_0 hWi) rfl (cwV 0 C.2.2.2.2.1 gX2_findFault_X2_readOrder rfl rfl rfl kdV_X2_readOrder ⟨Nat.le_of_ble_eq_true rfl, Nat.le_of_ble_eq_true rfl⟩) rfl rfl (Nat.le_of_ble_eq_true rfl) ⟨Nat.le_of_ble_eq_true rfl, Nat.le_of_ble_eq_true rfl⟩ dX2_findFault_13 (fun v_2 f_2 hp_2 => ?_)
      rcases hp_2 with ⟨hc_2_0, rfl, hW_2, hG_2⟩ | ⟨hc_2_0, rfl, kd_2, a_2, b_2, c_2, hW_2, hG_2⟩
      · skip
        have hF_2 := gFr_tr hFi hG_2
        refine gx_cons ?_
        have hq_2_0 : (ordr (q.1 0) n p1).1 = true := hc_2_0
        have hob := ordr_b _ _ _ hc_2_0
        refine gx_if_eq (tgt := 53) C dX2_findFault_16 (by decide) (fun c_16 => ?_) (fun c_16 => ?_)
        exact absurd c_16 (by decide)
        refine gx_aload_n (q := 0) C dX2_findFault_19 rfl ?_
        refine gx_get C (i := 2) (isDS_in hW_2 0 (Nat.le_of_ble_eq_true rfl)) (isDS_0 hW_2) rfl in_X2_findFault_2 (by decide) fl_X2_findFault_52 rfl dX2_findFault_20 ?_
        refine gx_top (nI ((ordr (q.1 0) n p1).2.1)) rfl ?_
        refine gx_aload_n (q := 0) C dX2_findFault_23 rfl ?_
        refine gx_get C (i := 1) (isDS_in hW_2 0 (Nat.le_of_ble_eq_true rfl)) (isDS_0 hW_2) rfl in_X2_findFault_2 (by decide) fl_X2_findFault_15 rfl dX2_findFault_24 ?_
        refine gx_top (nI n) hn ?_
        refine gx_icmp_ne (tgt := 33) C dX2_findFault_27 (by decide) (fun c_27 => ?_) (fun c_27 => ?_)
        · skip
          have hne : ¬ (ordr (q.1 0) n p1).2.1 = n := fun z => c_27 (by rw [z])
          refine gx_aload_n (q := 0) C dX2_findFault_33 rfl ?_
          refine gx_bipush (v := 59) C dX2_findFault_34 (by decide) ?_
          refine gx_callM C hD (k_X2_skip l hL hW_2 hn hn2 (by omega) _) (isDS_in hW_2 0 (Nat.le_of_ble_eq_true rfl)) (isDS_0 hW_2) rfl (cwV 1 C.2.2.2.2.1 gX2_findFault_X2_skip rfl rfl rfl kdV_X2_skip ⟨Nat.le_of_ble_eq_true rfl, Nat.le_of_ble_eq_true rfl⟩) rfl rfl (Nat.le_of_ble_eq_true rfl) ⟨Nat.le_of_ble_eq_true rfl, Nat.le_of_ble_eq_true rfl⟩ dX2_findFault_36 (fun v_3 f_3 hp_3 => ?_)
          rcases hp_3 with ⟨hc_3_0, rfl, hW_3, hG_3⟩ | ⟨hc_3_0, rfl, hW_3, hG_3⟩
          · skip
            have hF_3 := gFr_tr hF_2 hG_3
            refine gx_cons ?_
            have hz_3 := sg_ne hc_3_0 (by decide)
            have hq_3_0 : sg (q.1 0) n ((ordr (q.1 0) n p1).2.1) = 59 := hc_3_0
            refine gx_if_ne (tgt := 47) C dX2_findFault_39 (by decide) (fun c_39 => ?_) (fun c_39 => ?_)
            refine gx_iinc C (q := 1) (v := nI (i + 1)) [(1, _), (0, _)] dX2_findFault_47 rfl (nI_inc i) (by decide) rfl ?_
            refine gx_goto (tgt := 6) C dX2_findFault_50 (by decide) ?_
            have hb3 := ordr_b _ _ _ hq_2_0
            have hb4 := sg_ne hq_3_0 (by decide)
            obtain ⟨r, hr3⟩ : ∃ r, 80 - i = r + 1 := ⟨79 - i, by omega⟩
            have hfl2 : flt (q.1 0) n r ((ordr (q.1 0) n p1).2.1 + 1) = flt (q.1 0) n 80 0 := by rw [← hfl, hr3]; exact ((if_pos hq_2_0).trans ((if_neg hne).trans (if_pos hq_3_0))).symm
            exact gx_back [1, 0] (ih (i + 1, (ordr (q.1 0) n p1).2.1 + 1, _) ⟨by show i + 1 ≤ 80; omega, by show (ordr (q.1 0) n p1).2.1 + 1 ≤ n; omega, by show flt (q.1 0) n (80 - (i + 1)) _ = _; rw [show 80 - (i + 1) = r by omega]; exact hfl2, _, _, _, _, hW_3, hF_3⟩ (by show 80 - (i + 1) < 80 - i; omega)) rfl rfl
            exact absurd c_39 (by decide)
          · skip
            have hF_3 := gFr_tr hF_2 hG_3
            refine gx_cons ?_
            have hq_3_0 : ¬ sg (q.1 0) n ((ordr (q.1 0) n p1).2.1) = 59 := hc_3_0
            refine gx_if_ne (tgt := 47) C dX2_findFault_39 (by decide) (fun c_39 => ?_) (fun c_39 => ?_)
            exact absurd (by decide) c_39
            refine gx_aload_n (q := 0) C dX2_findFault_42 rfl ?_
            refine gx_get C (i := 2) (isDS_in hW_3 0 (Nat.le_of_ble_eq_true rfl)) (isDS_0 hW_3) rfl in_X2_findFault_2 (by decide) fl_X2_findFault_52 rfl dX2_findFault_43 ?_
            refine gx_top (nI ((ordr (q.1 0) n p1).2.1)) rfl ?_
            exact gx_iretM C hr dX2_findFault_46 ⟨by rw [← hfl]; obtain ⟨r, hr3⟩ : ∃ r, 80 - i = r + 1 := ⟨79 - i, by omega⟩; rw [hr3]; exact (congrArg some (congrArg Value.int ((if_pos hq_2_0).trans ((if_neg hne).trans (if_neg hq_3_0))))).symm, _, padEq_C q _ _ _ _ _, hW_3, hF_3⟩
        · skip
          have hb5 := ordr_b _ _ _ hq_2_0
          have heq : (ordr (q.1 0) n p1).2.1 = n := (nI_eq (by omega) (by omega)).mp c_27
          refine gx_bipush (v := (-6)) C dX2_findFault_30 (by decide) ?_
          exact gx_iretM C hr dX2_findFault_32 ⟨by rw [← hfl]; obtain ⟨r, hr3⟩ : ∃ r, 80 - i = r + 1 := ⟨79 - i, by omega⟩; rw [hr3]; exact (congrArg some (congrArg Value.int ((if_pos hq_2_0).trans (if_pos heq)))).symm, _, padEq_C q _ _ _ _ _, hW_2, hF_2⟩
      · skip
        have hF_2 := gFr_tr hFi hG_2
        refine gx_cons ?_
        have hq_2_0 : (ordr (q.1 0) n p1).1 = false := hc_2_0
        have hob := ordr_5 (q.1 0) n p1
        refine gx_if_eq (tgt := 53) C dX2_findFault_16 (by decide) (fun c_16 => ?_) (fun c_16 => ?_)
        refine gx_aload_n (q := 0) C dX2_findFault_53 rfl ?_
        refine gx_get C (i := 2) (isDS_in hW_2 0 (Nat.le_of_ble_eq_true rfl)) (isDS_0 hW_2) rfl in_X2_findFault_2 (by decide) fl_X2_findFault_52 rfl dX2_findFault_54 ?_
        refine gx_top (nI ((ordr (q.1 0) n p1).2.1)) rfl ?_
        exact gx_iretM C hr dX2_findFault_57 ⟨by rw [← hfl]; obtain ⟨r, hr3⟩ : ∃ r, 80 - i = r + 1 := ⟨79 - i, by omega⟩; rw [hr3]; exact (congrArg some (congrArg Value.int ((if_neg (bF hq_2_0))))).symm, _, padEq_C q _ _ _ _ _, hW_2, hF_2⟩
        exact absurd (by decide) c_16
