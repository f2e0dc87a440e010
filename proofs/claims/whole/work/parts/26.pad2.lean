theorem kdN_X2_readOrder : yX2_readOrder.cls ≠ "java/lang/invoke/MethodHandle" ∧ yX2_readOrder.cls ≠ "java/lang/invoke/VarHandle" ∧ (parseMethodDescriptor yX2_readOrder.desc).map (fun d => d.parameters.length) = some 0 := by decide +kernel
theorem kdV_X2_readOrder : yX2_readOrder.cls = RX2 ∧ yX2_readOrder.cls ≠ "java/lang/invoke/MethodHandle" ∧ yX2_readOrder.cls ≠ "java/lang/invoke/VarHandle" ∧ (parseMethodDescriptor yX2_readOrder.desc).map (fun d => d.parameters.length) = some 0 := ⟨rfl, kdN_X2_readOrder⟩
theorem in_X2_readOrder_2 : ∀ w ∈ u_ws RX2 TX2 7, w ∈ wsX2_readOrder := by decide +kernel
theorem fl_X2_readOrder_19 : Cond.fieldLink RX2 19 (TX2 3).1 (TX2 3).2.1 (TX2 3).2.2.1 ∈ wsX2_readOrder := by decide +kernel
theorem fl_X2_readOrder_22 : Cond.fieldLink RX2 22 (TX2 4).1 (TX2 4).2.1 (TX2 4).2.2.1 ∈ wsX2_readOrder := by decide +kernel
theorem fl_X2_readOrder_25 : Cond.fieldLink RX2 25 (TX2 5).1 (TX2 5).2.1 (TX2 5).2.2.1 ∈ wsX2_readOrder := by decide +kernel
theorem fl_X2_readOrder_28 : Cond.fieldLink RX2 28 (TX2 6).1 (TX2 6).2.1 (TX2 6).2.2.1 ∈ wsX2_readOrder := by decide +kernel
abbrev rmX2_readOrder : Room := { frames := 4, cells := 0, slots := 0, locals := 86 }
set_option maxHeartbeats 4000000 in
set_option maxRecDepth 100000 in
theorem k_X2_readOrder (l : Launch) {k : gK} {L : List Nat} {f : Nat → va_E} (hL : L.Nodup) {d : Nat → Nat} {q : DS} {n p0 : Nat} {kd a b c0 : Int32} (hW : isDS k L f d (dC q p0 kd a b c0)) (hn : q.2 0 = nI n) (hn2 : n ≤ 80) (hp : p0 ≤ 100)  : kM l k L f yX2_readOrder wsX2_readOrder rmX2_readOrder [.ref (d 0)] (fun v2 f2 => ((ordr (q.1 0) n p0).1 = true ∧ v2 = (some (.int 1)) ∧ isDS k L f2 d (dC q ((ordr (q.1 0) n p0).2.1) (sg (q.1 0) n p0) ((ordr (q.1 0) n p0).2.2.1) ((ordr (q.1 0) n p0).2.2.2.1) ((ordr (q.1 0) n p0).2.2.2.2)) ∧ gFr d 2 f f2) ∨ ((ordr (q.1 0) n p0).1 = false ∧ v2 = (some (.int 0)) ∧ ∃ kd2 a2 b2 c2, isDS k L f2 d (dC q ((ordr (q.1 0) n p0).2.1) kd2 a2 b2 c2) ∧ gFr d 2 f f2)) := by
  refine kM_of (cc := cX2_readOrder) (maxL := 1) (ret := (some .boolean)) (by decide) rfl (Nat.le_of_ble_eq_true rfl) ?_
  intro p e s m args below meth c C hr
  have hD : gD (fun q => q ∈ L) L := ⟨hL, fun _ h => h⟩
  refine gx_lv [(0, _)] [0] rfl ?_
  refine gx_aload_n (q := 0) C dX2_readOrder_0 rfl ?_
  refine gx_aload_n (q := 0) C dX2_readOrder_1 rfl ?_
  refine gx_callR C (k_X2_nextCode l hW hn hn2 (by omega)) (isDS_in hW 0 (Nat.le_of_ble_eq_true rfl)) (isDS_0 hW) rfl (cwV 0 C.2.2.2.2.1 gX2_readOrder_X2_nextCode rfl rfl rfl kdV_X2_nextCode ⟨Nat.le_of_ble_eq_true rfl, Nat.le_of_ble_eq_true rfl⟩) rfl rfl (Nat.le_of_ble_eq_true rfl) ⟨Nat.le_of_ble_eq_true rfl, Nat.le_of_ble_eq_true rfl⟩ dX2_readOrder_2 ?_
  refine gx_put C hD (i := 3) (ty := .int) tyX2_ok nmX2 (isDS_in hW 0 (Nat.le_of_ble_eq_true rfl)) (isDS_0 hW) rfl in_X2_readOrder_2 (by decide) fl_X2_readOrder_19 rfl (by decide +kernel) rfl rfl (Nat.le_of_ble_eq_true rfl) rfl dX2_readOrder_5 ?_
  refine gx_Ds2 hW (gFr_rf (f := f)) (fun f_1 hW_1 hF_1 => ?_)
  have hW_1 := isDS_same hW_1 (dC_2 q p0 kd a b c0 _)
  refine gx_aload_n (q := 0) C dX2_readOrder_8 rfl ?_
  refine gx_iconst (v := 0) C dX2_readOrder_9 (by decide) ?_
  refine gx_put C hD (i := 4) (ty := .int) tyX2_ok nmX2 (isDS_in hW_1 0 (Nat.le_of_ble_eq_true rfl)) (isDS_0 hW_1) rfl in_X2_readOrder_2 (by decide) fl_X2_readOrder_22 rfl (by decide +kernel) rfl rfl (Nat.le_of_ble_eq_true rfl) rfl dX2_readOrder_10 ?_
  refine gx_Ds3 hW_1 hF_1 (fun f_2 hW_2 hF_2 => ?_)
  have hW_2 := isDS_same hW_2 (dC_3 q p0 (sg (q.1 0) n p0) a b c0 _)
  refine gx_aload_n (q := 0) C dX2_readOrder_13 rfl ?_
  refine gx_iconst (v := 0) C dX2_readOrder_14 (by decide) ?_
  refine gx_put C hD (i := 5) (ty := .int) tyX2_ok nmX2 (isDS_in hW_2 0 (Nat.le_of_ble_eq_true rfl)) (isDS_0 hW_2) rfl in_X2_readOrder_2 (by decide) fl_X2_readOrder_25 rfl (by decide +kernel) rfl rfl (Nat.le_of_ble_eq_true rfl) rfl dX2_readOrder_15 ?_
  refine gx_Ds4 hW_2 hF_2 (fun f_3 hW_3 hF_3 => ?_)
  have hW_3 := isDS_same hW_3 (dC_4 q p0 (sg (q.1 0) n p0) 0 b c0 _)
  refine gx_aload_n (q := 0) C dX2_readOrder_18 rfl ?_
  refine gx_iconst (v := 0) C dX2_readOrder_19 (by decide) ?_
  refine gx_put C hD (i := 6) (ty := .int) tyX2_ok nmX2 (isDS_in hW_3 0 (Nat.le_of_ble_eq_true rfl)) (isDS_0 hW_3) rfl in_X2_readOrder_2 (by decide) fl_X2_readOrder_28 rfl (by decide +kernel) rfl rfl (Nat.le_of_ble_eq_true rfl) rfl dX2_readOrder_20 ?_
  refine gx_Ds5 hW_3 hF_3 (fun f_4 hW_4 hF_4 => ?_)
  have hW_4 := isDS_same hW_4 (dC_5 q p0 (sg (q.1 0) n p0) 0 0 c0 _)
  refine gx_aload_n (q := 0) C dX2_readOrder_23 rfl ?_
  refine gx_get C (i := 3) (isDS_in hW_4 0 (Nat.le_of_ble_eq_true rfl)) (isDS_0 hW_4) rfl in_X2_readOrder_2 (by decide) fl_X2_readOrder_19 rfl dX2_readOrder_24 ?_
  refine gx_top ((sg (q.1 0) n p0)) rfl ?_
  refine gsw_split 98 116 (sg (q.1 0) n p0) ?_ ?_
  · intro sw_27
    refine gx_tableOut (tgt := 277) C dX2_readOrder_27 sw_27 (by decide) ?_
    have n27_98 : ¬ (sg (q.1 0) n p0) = 98 := gsw_ne sw_27 (by decide)
    have n27_99 : ¬ (sg (q.1 0) n p0) = 99 := gsw_ne sw_27 (by decide)
    have n27_100 : ¬ (sg (q.1 0) n p0) = 100 := gsw_ne sw_27 (by decide)
    have n27_101 : ¬ (sg (q.1 0) n p0) = 101 := gsw_ne sw_27 (by decide)
    have n27_102 : ¬ (sg (q.1 0) n p0) = 102 := gsw_ne sw_27 (by decide)
    have n27_103 : ¬ (sg (q.1 0) n p0) = 103 := gsw_ne sw_27 (by decide)
    have n27_104 : ¬ (sg (q.1 0) n p0) = 104 := gsw_ne sw_27 (by decide)
    have n27_105 : ¬ (sg (q.1 0) n p0) = 105 := gsw_ne sw_27 (by decide)
    have n27_106 : ¬ (sg (q.1 0) n p0) = 106 := gsw_ne sw_27 (by decide)
    have n27_107 : ¬ (sg (q.1 0) n p0) = 107 := gsw_ne sw_27 (by decide)
    have n27_108 : ¬ (sg (q.1 0) n p0) = 108 := gsw_ne sw_27 (by decide)
    have n27_109 : ¬ (sg (q.1 0) n p0) = 109 := gsw_ne sw_27 (by decide)
    have n27_110 : ¬ (sg (q.1 0) n p0) = 110 := gsw_ne sw_27 (by decide)
    have n27_111 : ¬ (sg (q.1 0) n p0) = 111 := gsw_ne sw_27 (by decide)
    have n27_112 : ¬ (sg (q.1 0) n p0) = 112 := gsw_ne sw_27 (by decide)
    have n27_113 : ¬ (sg (q.1 0) n p0) = 113 := gsw_ne sw_27 (by decide)
    have n27_114 : ¬ (sg (q.1 0) n p0) = 114 := gsw_ne sw_27 (by decide)
    have n27_115 : ¬ (sg (q.1 0) n p0) = 115 := gsw_ne sw_27 (by decide)
    have n27_116 : ¬ (sg (q.1 0) n p0) = 116 := gsw_ne sw_27 (by decide)
    refine gx_iconst (v := 0) C dX2_readOrder_277 (by decide) ?_
    exact gx_zretM C hr (Or.inl rfl) dX2_readOrder_278 (Or.inr (⟨(by simp [ordr, n27_98, n27_99, n27_100, n27_101, n27_102, n27_103, n27_104, n27_105, n27_106, n27_107, n27_108, n27_109, n27_110, n27_111, n27_112, n27_113, n27_114, n27_115, n27_116]), rfl, (sg (q.1 0) n p0), 0, 0, 0, (isDS_same hW_4 (by simp [ordr, n27_98, n27_99, n27_100, n27_101, n27_102, n27_103, n27_104, n27_105, n27_106, n27_107, n27_108, n27_109, n27_110, n27_111, n27_112, n27_113, n27_114, n27_115, n27_116])), hF_4⟩))
  · intro j hj1 hj2 sw_27
    obtain rfl | rfl | rfl | rfl | rfl | rfl | rfl | rfl | rfl | rfl | rfl | rfl | rfl | rfl | rfl | rfl | rfl | rfl | rfl : j = 98 ∨ j = 99 ∨ j = 100 ∨ j = 101 ∨ j = 102 ∨ j = 103 ∨ j = 104 ∨ j = 105 ∨ j = 106 ∨ j = 107 ∨ j = 108 ∨ j = 109 ∨ j = 110 ∨ j = 111 ∨ j = 112 ∨ j = 113 ∨ j = 114 ∨ j = 115 ∨ j = 116 := by omega
    · skip
      refine gx_tableIn (off := 96) (tgt := 123) C dX2_readOrder_27 (by rw [sw_27]; decide) (by rw [sw_27]; decide) (by rw [sw_27]; rfl) (by decide) ?_
      have e27_98 : (sg (q.1 0) n p0) = 98 := gsw_eq sw_27 (by decide)
      refine gx_aload_n (q := 0) C dX2_readOrder_123 rfl ?_
      refine gx_bipush (v := 98) C dX2_readOrder_124 (by decide) ?_
      refine gx_callM C hD (k_X2_skip l hL hW_4 hn hn2 (by omega) _) (isDS_in hW_4 0 (Nat.le_of_ble_eq_true rfl)) (isDS_0 hW_4) rfl (cwV 1 C.2.2.2.2.1 gX2_readOrder_X2_skip rfl rfl rfl kdV_X2_skip ⟨Nat.le_of_ble_eq_true rfl, Nat.le_of_ble_eq_true rfl⟩) rfl rfl (Nat.le_of_ble_eq_true rfl) ⟨Nat.le_of_ble_eq_true rfl, Nat.le_of_ble_eq_true rfl⟩ dX2_readOrder_126 (fun v_5 f_5 hp_5 => ?_)
      rcases hp_5 with ⟨hc_5_0, rfl, hW_5, hG_5⟩ | ⟨hc_5_0, rfl, hW_5, hG_5⟩
      · skip
        have hF_5 := gFr_tr hF_4 hG_5
        refine gx_cons ?_
        have hz_5 := sg_ne hc_5_0 (by decide)
        have hq_5_0 : sg (q.1 0) n p0 = 98 := hc_5_0
        refine gx_if_eq (tgt := 143) C dX2_readOrder_129 (by decide) (fun c_129 => ?_) (fun c_129 => ?_)
        exact absurd c_129 (by decide)
        refine gx_aload_n (q := 0) C dX2_readOrder_132 rfl ?_
        refine gx_callM C hD (k_X2_readBooking l hL hW_5 hn hn2 (by omega)) (isDS_in hW_5 0 (Nat.le_of_ble_eq_true rfl)) (isDS_0 hW_5) rfl (cwV 0 C.2.2.2.2.1 gX2_readOrder_X2_readBooking rfl rfl rfl kdV_X2_readBooking ⟨Nat.le_of_ble_eq_true rfl, Nat.le_of_ble_eq_true rfl⟩) rfl rfl (Nat.le_of_ble_eq_true rfl) ⟨Nat.le_of_ble_eq_true rfl, Nat.le_of_ble_eq_true rfl⟩ dX2_readOrder_133 (fun v_6 f_6 hp_6 => ?_)
        rcases hp_6 with ⟨hc_6_0, hc_6_1, hc_6_2, hc_6_3, rfl, hW_6, hG_6⟩ | ⟨hc_6_0, hc_6_1, hc_6_2, rfl, hW_6, hG_6⟩ | ⟨hc_6_0, rfl, kd_6, a_6, b_6, c_6, hW_6, hG_6⟩ | ⟨hc_6_0, hc_6_1, rfl, kd_6, a_6, b_6, c_6, hW_6, hG_6⟩ | ⟨hc_6_0, hc_6_1, hc_6_2, hc_6_3, rfl, kd_6, a_6, b_6, c_6, hW_6, hG_6⟩
        · skip
          have hF_6 := gFr_tr hF_5 hG_6
          refine gx_cons ?_
          have hq_6_0 : isD (sg (q.1 0) n (p0 + 1)) = true := hc_6_0
          have hq_6_1 : isD (sg (q.1 0) n (p0 + 2)) = true := hc_6_1
          have hq_6_2 : sg (q.1 0) n (p0 + 3) = 43 := hc_6_2
          have hq_6_3 : isD (sg (q.1 0) n (p0 + 4)) = true := hc_6_3
          refine gx_if_eq (tgt := 143) C dX2_readOrder_136 (by decide) (fun c_136 => ?_) (fun c_136 => ?_)
          exact absurd c_136 (by decide)
          refine gx_iconst (v := 1) C dX2_readOrder_139 (by decide) ?_
          refine gx_goto (tgt := 144) C dX2_readOrder_140 (by decide) ?_
          exact gx_zretM C hr (Or.inr rfl) dX2_readOrder_144 (Or.inl ⟨(by simp [ordr, e27_98, hq_5_0, hq_6_0, hq_6_1, hq_6_2, hq_6_3]), rfl, (isDS_same hW_6 (by simp [ordr, e27_98, hq_5_0, hq_6_0, hq_6_1, hq_6_2, hq_6_3])), hF_6⟩)
        · skip
          have hF_6 := gFr_tr hF_5 hG_6
          refine gx_cons ?_
          have hq_6_0 : isD (sg (q.1 0) n (p0 + 1)) = true := hc_6_0
          have hq_6_1 : isD (sg (q.1 0) n (p0 + 2)) = true := hc_6_1
          have hq_6_2 : ¬ sg (q.1 0) n (p0 + 3) = 43 := hc_6_2
          refine gx_if_eq (tgt := 143) C dX2_readOrder_136 (by decide) (fun c_136 => ?_) (fun c_136 => ?_)
          exact absurd c_136 (by decide)
          refine gx_iconst (v := 1) C dX2_readOrder_139 (by decide) ?_
          refine gx_goto (tgt := 144) C dX2_readOrder_140 (by decide) ?_
          exact gx_zretM C hr (Or.inr rfl) dX2_readOrder_144 (Or.inl ⟨(by simp [ordr, e27_98, hq_5_0, hq_6_0, hq_6_1, hq_6_2]), rfl, (isDS_same hW_6 (by simp [ordr, e27_98, hq_5_0, hq_6_0, hq_6_1, hq_6_2])), hF_6⟩)
        · skip
          have hF_6 := gFr_tr hF_5 hG_6
          refine gx_cons ?_
          have hq_6_0 : isD (sg (q.1 0) n (p0 + 1)) = false := hc_6_0
          refine gx_if_eq (tgt := 143) C dX2_readOrder_136 (by decide) (fun c_136 => ?_) (fun c_136 => ?_)
          refine gx_iconst (v := 0) C dX2_readOrder_143 (by decide) ?_
          exact gx_zretM C hr (Or.inl rfl) dX2_readOrder_144 (Or.inr (⟨(by simp [ordr, e27_98, hq_5_0, hq_6_0]), rfl, kd_6, a_6, b_6, c_6, (isDS_same hW_6 (by simp [ordr, e27_98, hq_5_0, hq_6_0])), hF_6⟩))
          exact absurd (by decide) c_136
        · skip
          have hF_6 := gFr_tr hF_5 hG_6
          refine gx_cons ?_
          have hq_6_0 : isD (sg (q.1 0) n (p0 + 1)) = true := hc_6_0
          have hq_6_1 : isD (sg (q.1 0) n (p0 + 2)) = false := hc_6_1
          refine gx_if_eq (tgt := 143) C dX2_readOrder_136 (by decide) (fun c_136 => ?_) (fun c_136 => ?_)
          refine gx_iconst (v := 0) C dX2_readOrder_143 (by decide) ?_
          exact gx_zretM C hr (Or.inl rfl) dX2_readOrder_144 (Or.inr (⟨(by simp [ordr, e27_98, hq_5_0, hq_6_0, hq_6_1]), rfl, kd_6, a_6, b_6, c_6, (isDS_same hW_6 (by simp [ordr, e27_98, hq_5_0, hq_6_0, hq_6_1])), hF_6⟩))
          exact absurd (by decide) c_136
        · skip
          have hF_6 := gFr_tr hF_5 hG_6
          refine gx_cons ?_
          have hq_6_0 : isD (sg (q.1 0) n (p0 + 1)) = true := hc_6_0
          have hq_6_1 : isD (sg (q.1 0) n (p0 + 2)) = true := hc_6_1
          have hq_6_2 : sg (q.1 0) n (p0 + 3) = 43 := hc_6_2
          have hq_6_3 : isD (sg (q.1 0) n (p0 + 4)) = false := hc_6_3
          refine gx_if_eq (tgt := 143) C dX2_readOrder_136 (by decide) (fun c_136 => ?_) (fun c_136 => ?_)
          refine gx_iconst (v := 0) C dX2_readOrder_143 (by decide) ?_
          exact gx_zretM C hr (Or.inl rfl) dX2_readOrder_144 (Or.inr (⟨(by simp [ordr, e27_98, hq_5_0, hq_6_0, hq_6_1, hq_6_2, hq_6_3]), rfl, kd_6, a_6, b_6, c_6, (isDS_same hW_6 (by simp [ordr, e27_98, hq_5_0, hq_6_0, hq_6_1, hq_6_2, hq_6_3])), hF_6⟩))
          exact absurd (by decide) c_136
      · skip
        have hF_5 := gFr_tr hF_4 hG_5
        refine gx_cons ?_
        exact absurd e27_98 hc_5_0
    · skip
      refine gx_tableIn (off := 250) (tgt := 277) C dX2_readOrder_27 (by rw [sw_27]; decide) (by rw [sw_27]; decide) (by rw [sw_27]; rfl) (by decide) ?_
      have e27_99 : (sg (q.1 0) n p0) = 99 := gsw_eq sw_27 (by decide)
      have n27_98 : ¬ (sg (q.1 0) n p0) = 98 := gsw_n2 e27_99 (by decide)
      refine gx_iconst (v := 0) C dX2_readOrder_277 (by decide) ?_
      exact gx_zretM C hr (Or.inl rfl) dX2_readOrder_278 (Or.inr (⟨(by simp [ordr, n27_98, e27_99]), rfl, (sg (q.1 0) n p0), 0, 0, 0, (isDS_same hW_4 (by simp [ordr, n27_98, e27_99])), hF_4⟩))
    · skip
      refine gx_tableIn (off := 250) (tgt := 277) C dX2_readOrder_27 (by rw [sw_27]; decide) (by rw [sw_27]; decide) (by rw [sw_27]; rfl) (by decide) ?_
      have e27_100 : (sg (q.1 0) n p0) = 100 := gsw_eq sw_27 (by decide)
      have n27_98 : ¬ (sg (q.1 0) n p0) = 98 := gsw_n2 e27_100 (by decide)
      have n27_99 : ¬ (sg (q.1 0) n p0) = 99 := gsw_n2 e27_100 (by decide)
      refine gx_iconst (v := 0) C dX2_readOrder_277 (by decide) ?_
      exact gx_zretM C hr (Or.inl rfl) dX2_readOrder_278 (Or.inr (⟨(by simp [ordr, n27_98, n27_99, e27_100]), rfl, (sg (q.1 0) n p0), 0, 0, 0, (isDS_same hW_4 (by simp [ordr, n27_98, n27_99, e27_100])), hF_4⟩))
    · skip
      refine gx_tableIn (off := 250) (tgt := 277) C dX2_readOrder_27 (by rw [sw_27]; decide) (by rw [sw_27]; decide) (by rw [sw_27]; rfl) (by decide) ?_
      have e27_101 : (sg (q.1 0) n p0) = 101 := gsw_eq sw_27 (by decide)
      have n27_98 : ¬ (sg (q.1 0) n p0) = 98 := gsw_n2 e27_101 (by decide)
      have n27_99 : ¬ (sg (q.1 0) n p0) = 99 := gsw_n2 e27_101 (by decide)
      have n27_100 : ¬ (sg (q.1 0) n p0) = 100 := gsw_n2 e27_101 (by decide)
      refine gx_iconst (v := 0) C dX2_readOrder_277 (by decide) ?_
      exact gx_zretM C hr (Or.inl rfl) dX2_readOrder_278 (Or.inr (⟨(by simp [ordr, n27_98, n27_99, n27_100, e27_101]), rfl, (sg (q.1 0) n p0), 0, 0, 0, (isDS_same hW_4 (by simp [ordr, n27_98, n27_99, n27_100, e27_101])), hF_4⟩))
    · skip
      refine gx_tableIn (off := 162) (tgt := 189) C dX2_readOrder_27 (by rw [sw_27]; decide) (by rw [sw_27]; decide) (by rw [sw_27]; rfl) (by decide) ?_
      have e27_102 : (sg (q.1 0) n p0) = 102 := gsw_eq sw_27 (by decide)
      have n27_98 : ¬ (sg (q.1 0) n p0) = 98 := gsw_n2 e27_102 (by decide)
      have n27_99 : ¬ (sg (q.1 0) n p0) = 99 := gsw_n2 e27_102 (by decide)
      have n27_100 : ¬ (sg (q.1 0) n p0) = 100 := gsw_n2 e27_102 (by decide)
      have n27_101 : ¬ (sg (q.1 0) n p0) = 101 := gsw_n2 e27_102 (by decide)
      refine gx_aload_n (q := 0) C dX2_readOrder_189 rfl ?_
      refine gx_bipush (v := 102) C dX2_readOrder_190 (by decide) ?_
      refine gx_callM C hD (k_X2_skip l hL hW_4 hn hn2 (by omega) _) (isDS_in hW_4 0 (Nat.le_of_ble_eq_true rfl)) (isDS_0 hW_4) rfl (cwV 1 C.2.2.2.2.1 gX2_readOrder_X2_skip rfl rfl rfl kdV_X2_skip ⟨Nat.le_of_ble_eq_true rfl, Nat.le_of_ble_eq_true rfl⟩) rfl rfl (Nat.le_of_ble_eq_true rfl) ⟨Nat.le_of_ble_eq_true rfl, Nat.le_of_ble_eq_true rfl⟩ dX2_readOrder_192 (fun v_7 f_7 hp_7 => ?_)
      rcases hp_7 with ⟨hc_7_0, rfl, hW_7, hG_7⟩ | ⟨hc_7_0, rfl, hW_7, hG_7⟩
      · skip
        have hF_7 := gFr_tr hF_4 hG_7
        refine gx_cons ?_
        have hz_7 := sg_ne hc_7_0 (by decide)
        have hq_7_0 : sg (q.1 0) n p0 = 102 := hc_7_0
        refine gx_if_eq (tgt := 209) C dX2_readOrder_195 (by decide) (fun c_195 => ?_) (fun c_195 => ?_)
        exact absurd c_195 (by decide)
        refine gx_aload_n (q := 0) C dX2_readOrder_198 rfl ?_
        refine gx_callM C hD (k_X2_readOneNumber l hL hW_7 hn hn2 (by omega)) (isDS_in hW_7 0 (Nat.le_of_ble_eq_true rfl)) (isDS_0 hW_7) rfl (cwV 0 C.2.2.2.2.1 gX2_readOrder_X2_readOneNumber rfl rfl rfl kdV_X2_readOneNumber ⟨Nat.le_of_ble_eq_true rfl, Nat.le_of_ble_eq_true rfl⟩) rfl rfl (Nat.le_of_ble_eq_true rfl) ⟨Nat.le_of_ble_eq_true rfl, Nat.le_of_ble_eq_true rfl⟩ dX2_readOrder_199 (fun v_8 f_8 hp_8 => ?_)
        rcases hp_8 with ⟨hc_8_0, rfl, hW_8, hG_8⟩ | ⟨hc_8_0, rfl, kd_8, a_8, b_8, c_8, hW_8, hG_8⟩
        · skip
          have hF_8 := gFr_tr hF_7 hG_8
          refine gx_cons ?_
          have hq_8_0 : isD (sg (q.1 0) n (p0 + 1)) = true := hc_8_0
          refine gx_if_eq (tgt := 209) C dX2_readOrder_202 (by decide) (fun c_202 => ?_) (fun c_202 => ?_)
          exact absurd c_202 (by decide)
          refine gx_iconst (v := 1) C dX2_readOrder_205 (by decide) ?_
          refine gx_goto (tgt := 210) C dX2_readOrder_206 (by decide) ?_
          exact gx_zretM C hr (Or.inr rfl) dX2_readOrder_210 (Or.inl ⟨(by simp [ordr, n27_98, n27_99, n27_100, n27_101, e27_102, hq_7_0, hq_8_0]), rfl, (isDS_same hW_8 (by simp [ordr, n27_98, n27_99, n27_100, n27_101, e27_102, hq_7_0, hq_8_0])), hF_8⟩)
        · skip
          have hF_8 := gFr_tr hF_7 hG_8
          refine gx_cons ?_
          have hq_8_0 : isD (sg (q.1 0) n (p0 + 1)) = false := hc_8_0
          refine gx_if_eq (tgt := 209) C dX2_readOrder_202 (by decide) (fun c_202 => ?_) (fun c_202 => ?_)
          refine gx_iconst (v := 0) C dX2_readOrder_209 (by decide) ?_
          exact gx_zretM C hr (Or.inl rfl) dX2_readOrder_210 (Or.inr (⟨(by simp [ordr, n27_98, n27_99, n27_100, n27_101, e27_102, hq_7_0, hq_8_0]), rfl, kd_8, a_8, b_8, c_8, (isDS_same hW_8 (by simp [ordr, n27_98, n27_99, n27_100, n27_101, e27_102, hq_7_0, hq_8_0])), hF_8⟩))
          exact absurd (by decide) c_202
      · skip
        have hF_7 := gFr_tr hF_4 hG_7
        refine gx_cons ?_
        exact absurd e27_102 hc_7_0
    · skip
      refine gx_tableIn (off := 184) (tgt := 211) C dX2_readOrder_27 (by rw [sw_27]; decide) (by rw [sw_27]; decide) (by rw [sw_27]; rfl) (by decide) ?_
      have e27_103 : (sg (q.1 0) n p0) = 103 := gsw_eq sw_27 (by decide)
      have n27_98 : ¬ (sg (q.1 0) n p0) = 98 := gsw_n2 e27_103 (by decide)
      have n27_99 : ¬ (sg (q.1 0) n p0) = 99 := gsw_n2 e27_103 (by decide)
      have n27_100 : ¬ (sg (q.1 0) n p0) = 100 := gsw_n2 e27_103 (by decide)
      have n27_101 : ¬ (sg (q.1 0) n p0) = 101 := gsw_n2 e27_103 (by decide)
      have n27_102 : ¬ (sg (q.1 0) n p0) = 102 := gsw_n2 e27_103 (by decide)
      refine gx_aload_n (q := 0) C dX2_readOrder_211 rfl ?_
      refine gx_bipush (v := 103) C dX2_readOrder_212 (by decide) ?_
      refine gx_callM C hD (k_X2_skip l hL hW_4 hn hn2 (by omega) _) (isDS_in hW_4 0 (Nat.le_of_ble_eq_true rfl)) (isDS_0 hW_4) rfl (cwV 1 C.2.2.2.2.1 gX2_readOrder_X2_skip rfl rfl rfl kdV_X2_skip ⟨Nat.le_of_ble_eq_true rfl, Nat.le_of_ble_eq_true rfl⟩) rfl rfl (Nat.le_of_ble_eq_true rfl) ⟨Nat.le_of_ble_eq_true rfl, Nat.le_of_ble_eq_true rfl⟩ dX2_readOrder_214 (fun v_9 f_9 hp_9 => ?_)
      rcases hp_9 with ⟨hc_9_0, rfl, hW_9, hG_9⟩ | ⟨hc_9_0, rfl, hW_9, hG_9⟩
      · skip
        have hF_9 := gFr_tr hF_4 hG_9
        refine gx_cons ?_
        have hz_9 := sg_ne hc_9_0 (by decide)
        have hq_9_0 : sg (q.1 0) n p0 = 103 := hc_9_0
        refine gx_if_eq (tgt := 231) C dX2_readOrder_217 (by decide) (fun c_217 => ?_) (fun c_217 => ?_)
        exact absurd c_217 (by decide)
        refine gx_aload_n (q := 0) C dX2_readOrder_220 rfl ?_
        refine gx_callM C hD (k_X2_readGlazing l hL hW_9 hn hn2 (by omega)) (isDS_in hW_9 0 (Nat.le_of_ble_eq_true rfl)) (isDS_0 hW_9) rfl (cwV 0 C.2.2.2.2.1 gX2_readOrder_X2_readGlazing rfl rfl rfl kdV_X2_readGlazing ⟨Nat.le_of_ble_eq_true rfl, Nat.le_of_ble_eq_true rfl⟩) rfl rfl (Nat.le_of_ble_eq_true rfl) ⟨Nat.le_of_ble_eq_true rfl, Nat.le_of_ble_eq_true rfl⟩ dX2_readOrder_221 (fun v_10 f_10 hp_10 => ?_)
        rcases hp_10 with ⟨hc_10_0, hc_10_1, hc_10_2, rfl, hW_10, hG_10⟩ | ⟨hc_10_0, rfl, kd_10, a_10, b_10, c_10, hW_10, hG_10⟩ | ⟨hc_10_0, hc_10_1, rfl, kd_10, a_10, b_10, c_10, hW_10, hG_10⟩ | ⟨hc_10_0, hc_10_1, hc_10_2, rfl, kd_10, a_10, b_10, c_10, hW_10, hG_10⟩
        · skip
          have hF_10 := gFr_tr hF_9 hG_10
          refine gx_cons ?_
          have hq_10_0 : isD (sg (q.1 0) n (p0 + 1)) = true := hc_10_0
          have hq_10_1 : sg (q.1 0) n (numE (q.1 0) n (p0 + 1)) = 46 := hc_10_1
          have hq_10_2 : isD (sg (q.1 0) n (numE (q.1 0) n (p0 + 1) + 1)) = true := hc_10_2
          refine gx_if_eq (tgt := 231) C dX2_readOrder_224 (by decide) (fun c_224 => ?_) (fun c_224 => ?_)
          exact absurd c_224 (by decide)
          refine gx_iconst (v := 1) C dX2_readOrder_227 (by decide) ?_
          refine gx_goto (tgt := 232) C dX2_readOrder_228 (by decide) ?_
          exact gx_zretM C hr (Or.inr rfl) dX2_readOrder_232 (Or.inl ⟨(by simp [ordr, n27_98, n27_99, n27_100, n27_101, n27_102, e27_103, hq_9_0, hq_10_0, hq_10_1, hq_10_2]), rfl, (isDS_same hW_10 (by simp [ordr, n27_98, n27_99, n27_100, n27_101, n27_102, e27_103, hq_9_0, hq_10_0, hq_10_1, hq_10_2])), hF_10⟩)
        · skip
          have hF_10 := gFr_tr hF_9 hG_10
          refine gx_cons ?_
          have hq_10_0 : isD (sg (q.1 0) n (p0 + 1)) = false := hc_10_0
          refine gx_if_eq (tgt := 231) C dX2_readOrder_224 (by decide) (fun c_224 => ?_) (fun c_224 => ?_)
          refine gx_iconst (v := 0) C dX2_readOrder_231 (by decide) ?_
          exact gx_zretM C hr (Or.inl rfl) dX2_readOrder_232 (Or.inr (⟨(by simp [ordr, n27_98, n27_99, n27_100, n27_101, n27_102, e27_103, hq_9_0, hq_10_0]), rfl, kd_10, a_10, b_10, c_10, (isDS_same hW_10 (by simp [ordr, n27_98, n27_99, n27_100, n27_101, n27_102, e27_103, hq_9_0, hq_10_0])), hF_10⟩))
          exact absurd (by decide) c_224
        · skip
          have hF_10 := gFr_tr hF_9 hG_10
          refine gx_cons ?_
          have hq_10_0 : isD (sg (q.1 0) n (p0 + 1)) = true := hc_10_0
          have hq_10_1 : ¬ sg (q.1 0) n (numE (q.1 0) n (p0 + 1)) = 46 := hc_10_1
          refine gx_if_eq (tgt := 231) C dX2_readOrder_224 (by decide) (fun c_224 => ?_) (fun c_224 => ?_)
          refine gx_iconst (v := 0) C dX2_readOrder_231 (by decide) ?_
          exact gx_zretM C hr (Or.inl rfl) dX2_readOrder_232 (Or.inr (⟨(by simp [ordr, n27_98, n27_99, n27_100, n27_101, n27_102, e27_103, hq_9_0, hq_10_0, hq_10_1]), rfl, kd_10, a_10, b_10, c_10, (isDS_same hW_10 (by simp [ordr, n27_98, n27_99, n27_100, n27_101, n27_102, e27_103, hq_9_0, hq_10_0, hq_10_1])), hF_10⟩))
          exact absurd (by decide) c_224
        · skip
          have hF_10 := gFr_tr hF_9 hG_10
          refine gx_cons ?_
          have hq_10_0 : isD (sg (q.1 0) n (p0 + 1)) = true := hc_10_0
          have hq_10_1 : sg (q.1 0) n (numE (q.1 0) n (p0 + 1)) = 46 := hc_10_1
          have hq_10_2 : isD (sg (q.1 0) n (numE (q.1 0) n (p0 + 1) + 1)) = false := hc_10_2
          refine gx_if_eq (tgt := 231) C dX2_readOrder_224 (by decide) (fun c_224 => ?_) (fun c_224 => ?_)
          refine gx_iconst (v := 0) C dX2_readOrder_231 (by decide) ?_
          exact gx_zretM C hr (Or.inl rfl) dX2_readOrder_232 (Or.inr (⟨(by simp [ordr, n27_98, n27_99, n27_100, n27_101, n27_102, e27_103, hq_9_0, hq_10_0, hq_10_1, hq_10_2]), rfl, kd_10, a_10, b_10, c_10, (isDS_same hW_10 (by simp [ordr, n27_98, n27_99, n27_100, n27_101, n27_102, e27_103, hq_9_0, hq_10_0, hq_10_1, hq_10_2])), hF_10⟩))
          exact absurd (by decide) c_224
      · skip
        have hF_9 := gFr_tr hF_4 hG_9
        refine gx_cons ?_
        exact absurd e27_103 hc_9_0
    · skip
      refine gx_tableIn (off := 228) (tgt := 255) C dX2_readOrder_27 (by rw [sw_27]; decide) (by rw [sw_27]; decide) (by rw [sw_27]; rfl) (by decide) ?_
      have e27_104 : (sg (q.1 0) n p0) = 104 := gsw_eq sw_27 (by decide)
      have n27_98 : ¬ (sg (q.1 0) n p0) = 98 := gsw_n2 e27_104 (by decide)
      have n27_99 : ¬ (sg (q.1 0) n p0) = 99 := gsw_n2 e27_104 (by decide)
      have n27_100 : ¬ (sg (q.1 0) n p0) = 100 := gsw_n2 e27_104 (by decide)
      have n27_101 : ¬ (sg (q.1 0) n p0) = 101 := gsw_n2 e27_104 (by decide)
      have n27_102 : ¬ (sg (q.1 0) n p0) = 102 := gsw_n2 e27_104 (by decide)
      have n27_103 : ¬ (sg (q.1 0) n p0) = 103 := gsw_n2 e27_104 (by decide)
      refine gx_aload_n (q := 0) C dX2_readOrder_255 rfl ?_
      refine gx_bipush (v := 104) C dX2_readOrder_256 (by decide) ?_
      refine gx_callM C hD (k_X2_skip l hL hW_4 hn hn2 (by omega) _) (isDS_in hW_4 0 (Nat.le_of_ble_eq_true rfl)) (isDS_0 hW_4) rfl (cwV 1 C.2.2.2.2.1 gX2_readOrder_X2_skip rfl rfl rfl kdV_X2_skip ⟨Nat.le_of_ble_eq_true rfl, Nat.le_of_ble_eq_true rfl⟩) rfl rfl (Nat.le_of_ble_eq_true rfl) ⟨Nat.le_of_ble_eq_true rfl, Nat.le_of_ble_eq_true rfl⟩ dX2_readOrder_258 (fun v_11 f_11 hp_11 => ?_)
      rcases hp_11 with ⟨hc_11_0, rfl, hW_11, hG_11⟩ | ⟨hc_11_0, rfl, hW_11, hG_11⟩
      · skip
        have hF_11 := gFr_tr hF_4 hG_11
        refine gx_cons ?_
        have hz_11 := sg_ne hc_11_0 (by decide)
        have hq_11_0 : sg (q.1 0) n p0 = 104 := hc_11_0
        refine gx_if_eq (tgt := 275) C dX2_readOrder_261 (by decide) (fun c_261 => ?_) (fun c_261 => ?_)
        exact absurd c_261 (by decide)
        refine gx_aload_n (q := 0) C dX2_readOrder_264 rfl ?_
        refine gx_callM C hD (k_X2_readOneNumber l hL hW_11 hn hn2 (by omega)) (isDS_in hW_11 0 (Nat.le_of_ble_eq_true rfl)) (isDS_0 hW_11) rfl (cwV 0 C.2.2.2.2.1 gX2_readOrder_X2_readOneNumber rfl rfl rfl kdV_X2_readOneNumber ⟨Nat.le_of_ble_eq_true rfl, Nat.le_of_ble_eq_true rfl⟩) rfl rfl (Nat.le_of_ble_eq_true rfl) ⟨Nat.le_of_ble_eq_true rfl, Nat.le_of_ble_eq_true rfl⟩ dX2_readOrder_265 (fun v_12 f_12 hp_12 => ?_)
        rcases hp_12 with ⟨hc_12_0, rfl, hW_12, hG_12⟩ | ⟨hc_12_0, rfl, kd_12, a_12, b_12, c_12, hW_12, hG_12⟩
        · skip
          have hF_12 := gFr_tr hF_11 hG_12
          refine gx_cons ?_
          have hq_12_0 : isD (sg (q.1 0) n (p0 + 1)) = true := hc_12_0
          refine gx_if_eq (tgt := 275) C dX2_readOrder_268 (by decide) (fun c_268 => ?_) (fun c_268 => ?_)
          exact absurd c_268 (by decide)
          refine gx_iconst (v := 1) C dX2_readOrder_271 (by decide) ?_
          refine gx_goto (tgt := 276) C dX2_readOrder_272 (by decide) ?_
          exact gx_zretM C hr (Or.inr rfl) dX2_readOrder_276 (Or.inl ⟨(by simp [ordr, n27_98, n27_99, n27_100, n27_101, n27_102, n27_103, e27_104, hq_11_0, hq_12_0]), rfl, (isDS_same hW_12 (by simp [ordr, n27_98, n27_99, n27_100, n27_101, n27_102, n27_103, e27_104, hq_11_0, hq_12_0])), hF_12⟩)
        · skip
          have hF_12 := gFr_tr hF_11 hG_12
          refine gx_cons ?_
          have hq_12_0 : isD (sg (q.1 0) n (p0 + 1)) = false := hc_12_0
          refine gx_if_eq (tgt := 275) C dX2_readOrder_268 (by decide) (fun c_268 => ?_) (fun c_268 => ?_)
          refine gx_iconst (v := 0) C dX2_readOrder_275 (by decide) ?_
          exact gx_zretM C hr (Or.inl rfl) dX2_readOrder_276 (Or.inr (⟨(by simp [ordr, n27_98, n27_99, n27_100, n27_101, n27_102, n27_103, e27_104, hq_11_0, hq_12_0]), rfl, kd_12, a_12, b_12, c_12, (isDS_same hW_12 (by simp [ordr, n27_98, n27_99, n27_100, n27_101, n27_102, n27_103, e27_104, hq_11_0, hq_12_0])), hF_12⟩))
          exact absurd (by decide) c_268
      · skip
        have hF_11 := gFr_tr hF_4 hG_11
        refine gx_cons ?_
        exact absurd e27_104 hc_11_0
    · skip
      refine gx_tableIn (off := 250) (tgt := 277) C dX2_readOrder_27 (by rw [sw_27]; decide) (by rw [sw_27]; decide) (by rw [sw_27]; rfl) (by decide) ?_
      have e27_105 : (sg (q.1 0) n p0) = 105 := gsw_eq sw_27 (by decide)
      have n27_98 : ¬ (sg (q.1 0) n p0) = 98 := gsw_n2 e27_105 (by decide)
      have n27_99 : ¬ (sg (q.1 0) n p0) = 99 := gsw_n2 e27_105 (by decide)
      have n27_100 : ¬ (sg (q.1 0) n p0) = 100 := gsw_n2 e27_105 (by decide)
      have n27_101 : ¬ (sg (q.1 0) n p0) = 101 := gsw_n2 e27_105 (by decide)
      have n27_102 : ¬ (sg (q.1 0) n p0) = 102 := gsw_n2 e27_105 (by decide)
      have n27_103 : ¬ (sg (q.1 0) n p0) = 103 := gsw_n2 e27_105 (by decide)
      have n27_104 : ¬ (sg (q.1 0) n p0) = 104 := gsw_n2 e27_105 (by decide)
      refine gx_iconst (v := 0) C dX2_readOrder_277 (by decide) ?_
      exact gx_zretM C hr (Or.inl rfl) dX2_readOrder_278 (Or.inr (⟨(by simp [ordr, n27_98, n27_99, n27_100, n27_101, n27_102, n27_103, n27_104, e27_105]), rfl, (sg (q.1 0) n p0), 0, 0, 0, (isDS_same hW_4 (by simp [ordr, n27_98, n27_99, n27_100, n27_101, n27_102, n27_103, n27_104, e27_105])), hF_4⟩))
    · skip
      refine gx_tableIn (off := 250) (tgt := 277) C dX2_readOrder_27 (by rw [sw_27]; decide) (by rw [sw_27]; decide) (by rw [sw_27]; rfl) (by decide) ?_
      have e27_106 : (sg (q.1 0) n p0) = 106 := gsw_eq sw_27 (by decide)
      have n27_98 : ¬ (sg (q.1 0) n p0) = 98 := gsw_n2 e27_106 (by decide)
      have n27_99 : ¬ (sg (q.1 0) n p0) = 99 := gsw_n2 e27_106 (by decide)
      have n27_100 : ¬ (sg (q.1 0) n p0) = 100 := gsw_n2 e27_106 (by decide)
      have n27_101 : ¬ (sg (q.1 0) n p0) = 101 := gsw_n2 e27_106 (by decide)
      have n27_102 : ¬ (sg (q.1 0) n p0) = 102 := gsw_n2 e27_106 (by decide)
      have n27_103 : ¬ (sg (q.1 0) n p0) = 103 := gsw_n2 e27_106 (by decide)
      have n27_104 : ¬ (sg (q.1 0) n p0) = 104 := gsw_n2 e27_106 (by decide)
      have n27_105 : ¬ (sg (q.1 0) n p0) = 105 := gsw_n2 e27_106 (by decide)
      refine gx_iconst (v := 0) C dX2_readOrder_277 (by decide) ?_
      exact gx_zretM C hr (Or.inl rfl) dX2_readOrder_278 (Or.inr (⟨(by simp [ordr, n27_98, n27_99, n27_100, n27_101, n27_102, n27_103, n27_104, n27_105, e27_106]), rfl, (sg (q.1 0) n p0), 0, 0, 0, (isDS_same hW_4 (by simp [ordr, n27_98, n27_99, n27_100, n27_101, n27_102, n27_103, n27_104, n27_105, e27_106])), hF_4⟩))
    · skip
      refine gx_tableIn (off := 250) (tgt := 277) C dX2_readOrder_27 (by rw [sw_27]; decide) (by rw [sw_27]; decide) (by rw [sw_27]; rfl) (by decide) ?_
      have e27_107 : (sg (q.1 0) n p0) = 107 := gsw_eq sw_27 (by decide)
      have n27_98 : ¬ (sg (q.1 0) n p0) = 98 := gsw_n2 e27_107 (by decide)
      have n27_99 : ¬ (sg (q.1 0) n p0) = 99 := gsw_n2 e27_107 (by decide)
      have n27_100 : ¬ (sg (q.1 0) n p0) = 100 := gsw_n2 e27_107 (by decide)
      have n27_101 : ¬ (sg (q.1 0) n p0) = 101 := gsw_n2 e27_107 (by decide)
      have n27_102 : ¬ (sg (q.1 0) n p0) = 102 := gsw_n2 e27_107 (by decide)
      have n27_103 : ¬ (sg (q.1 0) n p0) = 103 := gsw_n2 e27_107 (by decide)
      have n27_104 : ¬ (sg (q.1 0) n p0) = 104 := gsw_n2 e27_107 (by decide)
      have n27_105 : ¬ (sg (q.1 0) n p0) = 105 := gsw_n2 e27_107 (by decide)
      have n27_106 : ¬ (sg (q.1 0) n p0) = 106 := gsw_n2 e27_107 (by decide)
      refine gx_iconst (v := 0) C dX2_readOrder_277 (by decide) ?_
      exact gx_zretM C hr (Or.inl rfl) dX2_readOrder_278 (Or.inr (⟨(by simp [ordr, n27_98, n27_99, n27_100, n27_101, n27_102, n27_103, n27_104, n27_105, n27_106, e27_107]), rfl, (sg (q.1 0) n p0), 0, 0, 0, (isDS_same hW_4 (by simp [ordr, n27_98, n27_99, n27_100, n27_101, n27_102, n27_103, n27_104, n27_105, n27_106, e27_107])), hF_4⟩))
    · skip
      refine gx_tableIn (off := 140) (tgt := 167) C dX2_readOrder_27 (by rw [sw_27]; decide) (by rw [sw_27]; decide) (by rw [sw_27]; rfl) (by decide) ?_
      have e27_108 : (sg (q.1 0) n p0) = 108 := gsw_eq sw_27 (by decide)
      have n27_98 : ¬ (sg (q.1 0) n p0) = 98 := gsw_n2 e27_108 (by decide)
      have n27_99 : ¬ (sg (q.1 0) n p0) = 99 := gsw_n2 e27_108 (by decide)
      have n27_100 : ¬ (sg (q.1 0) n p0) = 100 := gsw_n2 e27_108 (by decide)
      have n27_101 : ¬ (sg (q.1 0) n p0) = 101 := gsw_n2 e27_108 (by decide)
      have n27_102 : ¬ (sg (q.1 0) n p0) = 102 := gsw_n2 e27_108 (by decide)
      have n27_103 : ¬ (sg (q.1 0) n p0) = 103 := gsw_n2 e27_108 (by decide)
      have n27_104 : ¬ (sg (q.1 0) n p0) = 104 := gsw_n2 e27_108 (by decide)
      have n27_105 : ¬ (sg (q.1 0) n p0) = 105 := gsw_n2 e27_108 (by decide)
      have n27_106 : ¬ (sg (q.1 0) n p0) = 106 := gsw_n2 e27_108 (by decide)
      have n27_107 : ¬ (sg (q.1 0) n p0) = 107 := gsw_n2 e27_108 (by decide)
      refine gx_aload_n (q := 0) C dX2_readOrder_167 rfl ?_
      refine gx_bipush (v := 108) C dX2_readOrder_168 (by decide) ?_
      refine gx_callM C hD (k_X2_skip l hL hW_4 hn hn2 (by omega) _) (isDS_in hW_4 0 (Nat.le_of_ble_eq_true rfl)) (isDS_0 hW_4) rfl (cwV 1 C.2.2.2.2.1 gX2_readOrder_X2_skip rfl rfl rfl kdV_X2_skip ⟨Nat.le_of_ble_eq_true rfl, Nat.le_of_ble_eq_true rfl⟩) rfl rfl (Nat.le_of_ble_eq_true rfl) ⟨Nat.le_of_ble_eq_true rfl, Nat.le_of_ble_eq_true rfl⟩ dX2_readOrder_170 (fun v_13 f_13 hp_13 => ?_)
      rcases hp_13 with ⟨hc_13_0, rfl, hW_13, hG_13⟩ | ⟨hc_13_0, rfl, hW_13, hG_13⟩
      · skip
        have hF_13 := gFr_tr hF_4 hG_13
        refine gx_cons ?_
        have hz_13 := sg_ne hc_13_0 (by decide)
        have hq_13_0 : sg (q.1 0) n p0 = 108 := hc_13_0
        refine gx_if_eq (tgt := 187) C dX2_readOrder_173 (by decide) (fun c_173 => ?_) (fun c_173 => ?_)
        exact absurd c_173 (by decide)
        refine gx_aload_n (q := 0) C dX2_readOrder_176 rfl ?_
        refine gx_callM C hD (k_X2_readOneNumber l hL hW_13 hn hn2 (by omega)) (isDS_in hW_13 0 (Nat.le_of_ble_eq_true rfl)) (isDS_0 hW_13) rfl (cwV 0 C.2.2.2.2.1 gX2_readOrder_X2_readOneNumber rfl rfl rfl kdV_X2_readOneNumber ⟨Nat.le_of_ble_eq_true rfl, Nat.le_of_ble_eq_true rfl⟩) rfl rfl (Nat.le_of_ble_eq_true rfl) ⟨Nat.le_of_ble_eq_true rfl, Nat.le_of_ble_eq_true rfl⟩ dX2_readOrder_177 (fun v_14 f_14 hp_14 => ?_)
        rcases hp_14 with ⟨hc_14_0, rfl, hW_14, hG_14⟩ | ⟨hc_14_0, rfl, kd_14, a_14, b_14, c_14, hW_14, hG_14⟩
        · skip
          have hF_14 := gFr_tr hF_13 hG_14
          refine gx_cons ?_
          have hq_14_0 : isD (sg (q.1 0) n (p0 + 1)) = true := hc_14_0
          refine gx_if_eq (tgt := 187) C dX2_readOrder_180 (by decide) (fun c_180 => ?_) (fun c_180 => ?_)
          exact absurd c_180 (by decide)
          refine gx_iconst (v := 1) C dX2_readOrder_183 (by decide) ?_
          refine gx_goto (tgt := 188) C dX2_readOrder_184 (by decide) ?_
          exact gx_zretM C hr (Or.inr rfl) dX2_readOrder_188 (Or.inl ⟨(by simp [ordr, n27_98, n27_99, n27_100, n27_101, n27_102, n27_103, n27_104, n27_105, n27_106, n27_107, e27_108, hq_13_0, hq_14_0]), rfl, (isDS_same hW_14 (by simp [ordr, n27_98, n27_99, n27_100, n27_101, n27_102, n27_103, n27_104, n27_105, n27_106, n27_107, e27_108, hq_13_0, hq_14_0])), hF_14⟩)
        · skip
          have hF_14 := gFr_tr hF_13 hG_14
          refine gx_cons ?_
          have hq_14_0 : isD (sg (q.1 0) n (p0 + 1)) = false := hc_14_0
          refine gx_if_eq (tgt := 187) C dX2_readOrder_180 (by decide) (fun c_180 => ?_) (fun c_180 => ?_)
          refine gx_iconst (v := 0) C dX2_readOrder_187 (by decide) ?_
          exact gx_zretM C hr (Or.inl rfl) dX2_readOrder_188 (Or.inr (⟨(by simp [ordr, n27_98, n27_99, n27_100, n27_101, n27_102, n27_103, n27_104, n27_105, n27_106, n27_107, e27_108, hq_13_0, hq_14_0]), rfl, kd_14, a_14, b_14, c_14, (isDS_same hW_14 (by simp [ordr, n27_98, n27_99, n27_100, n27_101, n27_102, n27_103, n27_104, n27_105, n27_106, n27_107, e27_108, hq_13_0, hq_14_0])), hF_14⟩))
          exact absurd (by decide) c_180
      · skip
        have hF_13 := gFr_tr hF_4 hG_13
        refine gx_cons ?_
        exact absurd e27_108 hc_13_0
    · skip
      refine gx_tableIn (off := 250) (tgt := 277) C dX2_readOrder_27 (by rw [sw_27]; decide) (by rw [sw_27]; decide) (by rw [sw_27]; rfl) (by decide) ?_
      have e27_109 : (sg (q.1 0) n p0) = 109 := gsw_eq sw_27 (by decide)
      have n27_98 : ¬ (sg (q.1 0) n p0) = 98 := gsw_n2 e27_109 (by decide)
      have n27_99 : ¬ (sg (q.1 0) n p0) = 99 := gsw_n2 e27_109 (by decide)
      have n27_100 : ¬ (sg (q.1 0) n p0) = 100 := gsw_n2 e27_109 (by decide)
      have n27_101 : ¬ (sg (q.1 0) n p0) = 101 := gsw_n2 e27_109 (by decide)
      have n27_102 : ¬ (sg (q.1 0) n p0) = 102 := gsw_n2 e27_109 (by decide)
      have n27_103 : ¬ (sg (q.1 0) n p0) = 103 := gsw_n2 e27_109 (by decide)
      have n27_104 : ¬ (sg (q.1 0) n p0) = 104 := gsw_n2 e27_109 (by decide)
      have n27_105 : ¬ (sg (q.1 0) n p0) = 105 := gsw_n2 e27_109 (by decide)
      have n27_106 : ¬ (sg (q.1 0) n p0) = 106 := gsw_n2 e27_109 (by decide)
      have n27_107 : ¬ (sg (q.1 0) n p0) = 107 := gsw_n2 e27_109 (by decide)
      have n27_108 : ¬ (sg (q.1 0) n p0) = 108 := gsw_n2 e27_109 (by decide)
      refine gx_iconst (v := 0) C dX2_readOrder_277 (by decide) ?_
      exact gx_zretM C hr (Or.inl rfl) dX2_readOrder_278 (Or.inr (⟨(by simp [ordr, n27_98, n27_99, n27_100, n27_101, n27_102, n27_103, n27_104, n27_105, n27_106, n27_107, n27_108, e27_109]), rfl, (sg (q.1 0) n p0), 0, 0, 0, (isDS_same hW_4 (by simp [ordr, n27_98, n27_99, n27_100, n27_101, n27_102, n27_103, n27_104, n27_105, n27_106, n27_107, n27_108, e27_109])), hF_4⟩))
    · skip
      refine gx_tableIn (off := 206) (tgt := 233) C dX2_readOrder_27 (by rw [sw_27]; decide) (by rw [sw_27]; decide) (by rw [sw_27]; rfl) (by decide) ?_
      have e27_110 : (sg (q.1 0) n p0) = 110 := gsw_eq sw_27 (by decide)
      have n27_98 : ¬ (sg (q.1 0) n p0) = 98 := gsw_n2 e27_110 (by decide)
      have n27_99 : ¬ (sg (q.1 0) n p0) = 99 := gsw_n2 e27_110 (by decide)
      have n27_100 : ¬ (sg (q.1 0) n p0) = 100 := gsw_n2 e27_110 (by decide)
      have n27_101 : ¬ (sg (q.1 0) n p0) = 101 := gsw_n2 e27_110 (by decide)
      have n27_102 : ¬ (sg (q.1 0) n p0) = 102 := gsw_n2 e27_110 (by decide)
      have n27_103 : ¬ (sg (q.1 0) n p0) = 103 := gsw_n2 e27_110 (by decide)
      have n27_104 : ¬ (sg (q.1 0) n p0) = 104 := gsw_n2 e27_110 (by decide)
      have n27_105 : ¬ (sg (q.1 0) n p0) = 105 := gsw_n2 e27_110 (by decide)
      have n27_106 : ¬ (sg (q.1 0) n p0) = 106 := gsw_n2 e27_110 (by decide)
      have n27_107 : ¬ (sg (q.1 0) n p0) = 107 := gsw_n2 e27_110 (by decide)
      have n27_108 : ¬ (sg (q.1 0) n p0) = 108 := gsw_n2 e27_110 (by decide)
      have n27_109 : ¬ (sg (q.1 0) n p0) = 109 := gsw_n2 e27_110 (by decide)
      refine gx_aload_n (q := 0) C dX2_readOrder_233 rfl ?_
      refine gx_bipush (v := 110) C dX2_readOrder_234 (by decide) ?_
      refine gx_callM C hD (k_X2_skip l hL hW_4 hn hn2 (by omega) _) (isDS_in hW_4 0 (Nat.le_of_ble_eq_true rfl)) (isDS_0 hW_4) rfl (cwV 1 C.2.2.2.2.1 gX2_readOrder_X2_skip rfl rfl rfl kdV_X2_skip ⟨Nat.le_of_ble_eq_true rfl, Nat.le_of_ble_eq_true rfl⟩) rfl rfl (Nat.le_of_ble_eq_true rfl) ⟨Nat.le_of_ble_eq_true rfl, Nat.le_of_ble_eq_true rfl⟩ dX2_readOrder_236 (fun v_15 f_15 hp_15 => ?_)
      rcases hp_15 with ⟨hc_15_0, rfl, hW_15, hG_15⟩ | ⟨hc_15_0, rfl, hW_15, hG_15⟩
      · skip
        have hF_15 := gFr_tr hF_4 hG_15
        refine gx_cons ?_
        have hz_15 := sg_ne hc_15_0 (by decide)
        have hq_15_0 : sg (q.1 0) n p0 = 110 := hc_15_0
        refine gx_if_eq (tgt := 253) C dX2_readOrder_239 (by decide) (fun c_239 => ?_) (fun c_239 => ?_)
        exact absurd c_239 (by decide)
        refine gx_aload_n (q := 0) C dX2_readOrder_242 rfl ?_
        refine gx_callM C hD (k_X2_readOneNumber l hL hW_15 hn hn2 (by omega)) (isDS_in hW_15 0 (Nat.le_of_ble_eq_true rfl)) (isDS_0 hW_15) rfl (cwV 0 C.2.2.2.2.1 gX2_readOrder_X2_readOneNumber rfl rfl rfl kdV_X2_readOneNumber ⟨Nat.le_of_ble_eq_true rfl, Nat.le_of_ble_eq_true rfl⟩) rfl rfl (Nat.le_of_ble_eq_true rfl) ⟨Nat.le_of_ble_eq_true rfl, Nat.le_of_ble_eq_true rfl⟩ dX2_readOrder_243 (fun v_16 f_16 hp_16 => ?_)
        rcases hp_16 with ⟨hc_16_0, rfl, hW_16, hG_16⟩ | ⟨hc_16_0, rfl, kd_16, a_16, b_16, c_16, hW_16, hG_16⟩
        · skip
          have hF_16 := gFr_tr hF_15 hG_16
          refine gx_cons ?_
          have hq_16_0 : isD (sg (q.1 0) n (p0 + 1)) = true := hc_16_0
          refine gx_if_eq (tgt := 253) C dX2_readOrder_246 (by decide) (fun c_246 => ?_) (fun c_246 => ?_)
          exact absurd c_246 (by decide)
          refine gx_iconst (v := 1) C dX2_readOrder_249 (by decide) ?_
          refine gx_goto (tgt := 254) C dX2_readOrder_250 (by decide) ?_
          exact gx_zretM C hr (Or.inr rfl) dX2_readOrder_254 (Or.inl ⟨(by simp [ordr, n27_98, n27_99, n27_100, n27_101, n27_102, n27_103, n27_104, n27_105, n27_106, n27_107, n27_108, n27_109, e27_110, hq_15_0, hq_16_0]), rfl, (isDS_same hW_16 (by simp [ordr, n27_98, n27_99, n27_100, n27_101, n27_102, n27_103, n27_104, n27_105, n27_106, n27_107, n27_108, n27_109, e27_110, hq_15_0, hq_16_0])), hF_16⟩)
        · skip
          have hF_16 := gFr_tr hF_15 hG_16
          refine gx_cons ?_
          have hq_16_0 : isD (sg (q.1 0) n (p0 + 1)) = false := hc_16_0
          refine gx_if_eq (tgt := 253) C dX2_readOrder_246 (by decide) (fun c_246 => ?_) (fun c_246 => ?_)
          refine gx_iconst (v := 0) C dX2_readOrder_253 (by decide) ?_
          exact gx_zretM C hr (Or.inl rfl) dX2_readOrder_254 (Or.inr (⟨(by simp [ordr, n27_98, n27_99, n27_100, n27_101, n27_102, n27_103, n27_104, n27_105, n27_106, n27_107, n27_108, n27_109, e27_110, hq_15_0, hq_16_0]), rfl, kd_16, a_16, b_16, c_16, (isDS_same hW_16 (by simp [ordr, n27_98, n27_99, n27_100, n27_101, n27_102, n27_103, n27_104, n27_105, n27_106, n27_107, n27_108, n27_109, e27_110, hq_15_0, hq_16_0])), hF_16⟩))
          exact absurd (by decide) c_246
      · skip
        have hF_15 := gFr_tr hF_4 hG_15
        refine gx_cons ?_
        exact absurd e27_110 hc_15_0
    · skip
      refine gx_tableIn (off := 250) (tgt := 277) C dX2_readOrder_27 (by rw [sw_27]; decide) (by rw [sw_27]; decide) (by rw [sw_27]; rfl) (by decide) ?_
      have e27_111 : (sg (q.1 0) n p0) = 111 := gsw_eq sw_27 (by decide)
      have n27_98 : ¬ (sg (q.1 0) n p0) = 98 := gsw_n2 e27_111 (by decide)
      have n27_99 : ¬ (sg (q.1 0) n p0) = 99 := gsw_n2 e27_111 (by decide)
      have n27_100 : ¬ (sg (q.1 0) n p0) = 100 := gsw_n2 e27_111 (by decide)
      have n27_101 : ¬ (sg (q.1 0) n p0) = 101 := gsw_n2 e27_111 (by decide)
      have n27_102 : ¬ (sg (q.1 0) n p0) = 102 := gsw_n2 e27_111 (by decide)
      have n27_103 : ¬ (sg (q.1 0) n p0) = 103 := gsw_n2 e27_111 (by decide)
      have n27_104 : ¬ (sg (q.1 0) n p0) = 104 := gsw_n2 e27_111 (by decide)
      have n27_105 : ¬ (sg (q.1 0) n p0) = 105 := gsw_n2 e27_111 (by decide)
      have n27_106 : ¬ (sg (q.1 0) n p0) = 106 := gsw_n2 e27_111 (by decide)
      have n27_107 : ¬ (sg (q.1 0) n p0) = 107 := gsw_n2 e27_111 (by decide)
      have n27_108 : ¬ (sg (q.1 0) n p0) = 108 := gsw_n2 e27_111 (by decide)
      have n27_109 : ¬ (sg (q.1 0) n p0) = 109 := gsw_n2 e27_111 (by decide)
      have n27_110 : ¬ (sg (q.1 0) n p0) = 110 := gsw_n2 e27_111 (by decide)
      refine gx_iconst (v := 0) C dX2_readOrder_277 (by decide) ?_
      exact gx_zretM C hr (Or.inl rfl) dX2_readOrder_278 (Or.inr (⟨(by simp [ordr, n27_98, n27_99, n27_100, n27_101, n27_102, n27_103, n27_104, n27_105, n27_106, n27_107, n27_108, n27_109, n27_110, e27_111]), rfl, (sg (q.1 0) n p0), 0, 0, 0, (isDS_same hW_4 (by simp [ordr, n27_98, n27_99, n27_100, n27_101, n27_102, n27_103, n27_104, n27_105, n27_106, n27_107, n27_108, n27_109, n27_110, e27_111])), hF_4⟩))
    · skip
      refine gx_tableIn (off := 89) (tgt := 116) C dX2_readOrder_27 (by rw [sw_27]; decide) (by rw [sw_27]; decide) (by rw [sw_27]; rfl) (by decide) ?_
      have e27_112 : (sg (q.1 0) n p0) = 112 := gsw_eq sw_27 (by decide)
      have n27_98 : ¬ (sg (q.1 0) n p0) = 98 := gsw_n2 e27_112 (by decide)
      have n27_99 : ¬ (sg (q.1 0) n p0) = 99 := gsw_n2 e27_112 (by decide)
      have n27_100 : ¬ (sg (q.1 0) n p0) = 100 := gsw_n2 e27_112 (by decide)
      have n27_101 : ¬ (sg (q.1 0) n p0) = 101 := gsw_n2 e27_112 (by decide)
      have n27_102 : ¬ (sg (q.1 0) n p0) = 102 := gsw_n2 e27_112 (by decide)
      have n27_103 : ¬ (sg (q.1 0) n p0) = 103 := gsw_n2 e27_112 (by decide)
      have n27_104 : ¬ (sg (q.1 0) n p0) = 104 := gsw_n2 e27_112 (by decide)
      have n27_105 : ¬ (sg (q.1 0) n p0) = 105 := gsw_n2 e27_112 (by decide)
      have n27_106 : ¬ (sg (q.1 0) n p0) = 106 := gsw_n2 e27_112 (by decide)
      have n27_107 : ¬ (sg (q.1 0) n p0) = 107 := gsw_n2 e27_112 (by decide)
      have n27_108 : ¬ (sg (q.1 0) n p0) = 108 := gsw_n2 e27_112 (by decide)
      have n27_109 : ¬ (sg (q.1 0) n p0) = 109 := gsw_n2 e27_112 (by decide)
      have n27_110 : ¬ (sg (q.1 0) n p0) = 110 := gsw_n2 e27_112 (by decide)
      have n27_111 : ¬ (sg (q.1 0) n p0) = 111 := gsw_n2 e27_112 (by decide)
      refine gx_aload_n (q := 0) C dX2_readOrder_116 rfl ?_
      refine gx_bipush (v := 112) C dX2_readOrder_117 (by decide) ?_
      refine gx_callM C hD (k_X2_skip l hL hW_4 hn hn2 (by omega) _) (isDS_in hW_4 0 (Nat.le_of_ble_eq_true rfl)) (isDS_0 hW_4) rfl (cwV 1 C.2.2.2.2.1 gX2_readOrder_X2_skip rfl rfl rfl kdV_X2_skip ⟨Nat.le_of_ble_eq_true rfl, Nat.le_of_ble_eq_true rfl⟩) rfl rfl (Nat.le_of_ble_eq_true rfl) ⟨Nat.le_of_ble_eq_true rfl, Nat.le_of_ble_eq_true rfl⟩ dX2_readOrder_119 (fun v_17 f_17 hp_17 => ?_)
      rcases hp_17 with ⟨hc_17_0, rfl, hW_17, hG_17⟩ | ⟨hc_17_0, rfl, hW_17, hG_17⟩
      · skip
        have hF_17 := gFr_tr hF_4 hG_17
        refine gx_cons ?_
        have hz_17 := sg_ne hc_17_0 (by decide)
        have hq_17_0 : sg (q.1 0) n p0 = 112 := hc_17_0
        exact gx_zretM C hr (Or.inr rfl) dX2_readOrder_122 (Or.inl ⟨(by simp [ordr, n27_98, n27_99, n27_100, n27_101, n27_102, n27_103, n27_104, n27_105, n27_106, n27_107, n27_108, n27_109, n27_110, n27_111, e27_112, hq_17_0]), rfl, (isDS_same hW_17 (by simp [ordr, n27_98, n27_99, n27_100, n27_101, n27_102, n27_103, n27_104, n27_105, n27_106, n27_107, n27_108, n27_109, n27_110, n27_111, e27_112, hq_17_0])), hF_17⟩)
      · skip
        have hF_17 := gFr_tr hF_4 hG_17
        refine gx_cons ?_
        exact absurd e27_112 hc_17_0
    · skip
      refine gx_tableIn (off := 250) (tgt := 277) C dX2_readOrder_27 (by rw [sw_27]; decide) (by rw [sw_27]; decide) (by rw [sw_27]; rfl) (by decide) ?_
      have e27_113 : (sg (q.1 0) n p0) = 113 := gsw_eq sw_27 (by decide)
      have n27_98 : ¬ (sg (q.1 0) n p0) = 98 := gsw_n2 e27_113 (by decide)
      have n27_99 : ¬ (sg (q.1 0) n p0) = 99 := gsw_n2 e27_113 (by decide)
      have n27_100 : ¬ (sg (q.1 0) n p0) = 100 := gsw_n2 e27_113 (by decide)
      have n27_101 : ¬ (sg (q.1 0) n p0) = 101 := gsw_n2 e27_113 (by decide)
      have n27_102 : ¬ (sg (q.1 0) n p0) = 102 := gsw_n2 e27_113 (by decide)
      have n27_103 : ¬ (sg (q.1 0) n p0) = 103 := gsw_n2 e27_113 (by decide)
      have n27_104 : ¬ (sg (q.1 0) n p0) = 104 := gsw_n2 e27_113 (by decide)
      have n27_105 : ¬ (sg (q.1 0) n p0) = 105 := gsw_n2 e27_113 (by decide)
      have n27_106 : ¬ (sg (q.1 0) n p0) = 106 := gsw_n2 e27_113 (by decide)
      have n27_107 : ¬ (sg (q.1 0) n p0) = 107 := gsw_n2 e27_113 (by decide)
      have n27_108 : ¬ (sg (q.1 0) n p0) = 108 := gsw_n2 e27_113 (by decide)
      have n27_109 : ¬ (sg (q.1 0) n p0) = 109 := gsw_n2 e27_113 (by decide)
      have n27_110 : ¬ (sg (q.1 0) n p0) = 110 := gsw_n2 e27_113 (by decide)
      have n27_111 : ¬ (sg (q.1 0) n p0) = 111 := gsw_n2 e27_113 (by decide)
      have n27_112 : ¬ (sg (q.1 0) n p0) = 112 := gsw_n2 e27_113 (by decide)
      refine gx_iconst (v := 0) C dX2_readOrder_277 (by decide) ?_
      exact gx_zretM C hr (Or.inl rfl) dX2_readOrder_278 (Or.inr (⟨(by simp [ordr, n27_98, n27_99, n27_100, n27_101, n27_102, n27_103, n27_104, n27_105, n27_106, n27_107, n27_108, n27_109, n27_110, n27_111, n27_112, e27_113]), rfl, (sg (q.1 0) n p0), 0, 0, 0, (isDS_same hW_4 (by simp [ordr, n27_98, n27_99, n27_100, n27_101, n27_102, n27_103, n27_104, n27_105, n27_106, n27_107, n27_108, n27_109, n27_110, n27_111, n27_112, e27_113])), hF_4⟩))
    · skip
      refine gx_tableIn (off := 250) (tgt := 277) C dX2_readOrder_27 (by rw [sw_27]; decide) (by rw [sw_27]; decide) (by rw [sw_27]; rfl) (by decide) ?_
      have e27_114 : (sg (q.1 0) n p0) = 114 := gsw_eq sw_27 (by decide)
      have n27_98 : ¬ (sg (q.1 0) n p0) = 98 := gsw_n2 e27_114 (by decide)
      have n27_99 : ¬ (sg (q.1 0) n p0) = 99 := gsw_n2 e27_114 (by decide)
      have n27_100 : ¬ (sg (q.1 0) n p0) = 100 := gsw_n2 e27_114 (by decide)
      have n27_101 : ¬ (sg (q.1 0) n p0) = 101 := gsw_n2 e27_114 (by decide)
      have n27_102 : ¬ (sg (q.1 0) n p0) = 102 := gsw_n2 e27_114 (by decide)
      have n27_103 : ¬ (sg (q.1 0) n p0) = 103 := gsw_n2 e27_114 (by decide)
      have n27_104 : ¬ (sg (q.1 0) n p0) = 104 := gsw_n2 e27_114 (by decide)
      have n27_105 : ¬ (sg (q.1 0) n p0) = 105 := gsw_n2 e27_114 (by decide)
      have n27_106 : ¬ (sg (q.1 0) n p0) = 106 := gsw_n2 e27_114 (by decide)
      have n27_107 : ¬ (sg (q.1 0) n p0) = 107 := gsw_n2 e27_114 (by decide)
      have n27_108 : ¬ (sg (q.1 0) n p0) = 108 := gsw_n2 e27_114 (by decide)
      have n27_109 : ¬ (sg (q.1 0) n p0) = 109 := gsw_n2 e27_114 (by decide)
      have n27_110 : ¬ (sg (q.1 0) n p0) = 110 := gsw_n2 e27_114 (by decide)
      have n27_111 : ¬ (sg (q.1 0) n p0) = 111 := gsw_n2 e27_114 (by decide)
      have n27_112 : ¬ (sg (q.1 0) n p0) = 112 := gsw_n2 e27_114 (by decide)
      have n27_113 : ¬ (sg (q.1 0) n p0) = 113 := gsw_n2 e27_114 (by decide)
      refine gx_iconst (v := 0) C dX2_readOrder_277 (by decide) ?_
      exact gx_zretM C hr (Or.inl rfl) dX2_readOrder_278 (Or.inr (⟨(by simp [ordr, n27_98, n27_99, n27_100, n27_101, n27_102, n27_103, n27_104, n27_105, n27_106, n27_107, n27_108, n27_109, n27_110, n27_111, n27_112, n27_113, e27_114]), rfl, (sg (q.1 0) n p0), 0, 0, 0, (isDS_same hW_4 (by simp [ordr, n27_98, n27_99, n27_100, n27_101, n27_102, n27_103, n27_104, n27_105, n27_106, n27_107, n27_108, n27_109, n27_110, n27_111, n27_112, n27_113, e27_114])), hF_4⟩))
    · skip
      refine gx_tableIn (off := 250) (tgt := 277) C dX2_readOrder_27 (by rw [sw_27]; decide) (by rw [sw_27]; decide) (by rw [sw_27]; rfl) (by decide) ?_
      have e27_115 : (sg (q.1 0) n p0) = 115 := gsw_eq sw_27 (by decide)
      have n27_98 : ¬ (sg (q.1 0) n p0) = 98 := gsw_n2 e27_115 (by decide)
      have n27_99 : ¬ (sg (q.1 0) n p0) = 99 := gsw_n2 e27_115 (by decide)
      have n27_100 : ¬ (sg (q.1 0) n p0) = 100 := gsw_n2 e27_115 (by decide)
      have n27_101 : ¬ (sg (q.1 0) n p0) = 101 := gsw_n2 e27_115 (by decide)
      have n27_102 : ¬ (sg (q.1 0) n p0) = 102 := gsw_n2 e27_115 (by decide)
      have n27_103 : ¬ (sg (q.1 0) n p0) = 103 := gsw_n2 e27_115 (by decide)
      have n27_104 : ¬ (sg (q.1 0) n p0) = 104 := gsw_n2 e27_115 (by decide)
      have n27_105 : ¬ (sg (q.1 0) n p0) = 105 := gsw_n2 e27_115 (by decide)
      have n27_106 : ¬ (sg (q.1 0) n p0) = 106 := gsw_n2 e27_115 (by decide)
      have n27_107 : ¬ (sg (q.1 0) n p0) = 107 := gsw_n2 e27_115 (by decide)
      have n27_108 : ¬ (sg (q.1 0) n p0) = 108 := gsw_n2 e27_115 (by decide)
      have n27_109 : ¬ (sg (q.1 0) n p0) = 109 := gsw_n2 e27_115 (by decide)
      have n27_110 : ¬ (sg (q.1 0) n p0) = 110 := gsw_n2 e27_115 (by decide)
      have n27_111 : ¬ (sg (q.1 0) n p0) = 111 := gsw_n2 e27_115 (by decide)
      have n27_112 : ¬ (sg (q.1 0) n p0) = 112 := gsw_n2 e27_115 (by decide)
      have n27_113 : ¬ (sg (q.1 0) n p0) = 113 := gsw_n2 e27_115 (by decide)
      have n27_114 : ¬ (sg (q.1 0) n p0) = 114 := gsw_n2 e27_115 (by decide)
      refine gx_iconst (v := 0) C dX2_readOrder_277 (by decide) ?_
      exact gx_zretM C hr (Or.inl rfl) dX2_readOrder_278 (Or.inr (⟨(by simp [ordr, n27_98, n27_99, n27_100, n27_101, n27_102, n27_103, n27_104, n27_105, n27_106, n27_107, n27_108, n27_109, n27_110, n27_111, n27_112, n27_113, n27_114, e27_115]), rfl, (sg (q.1 0) n p0), 0, 0, 0, (isDS_same hW_4 (by simp [ordr, n27_98, n27_99, n27_100, n27_101, n27_102, n27_103, n27_104, n27_105, n27_106, n27_107, n27_108, n27_109, n27_110, n27_111, n27_112, n27_113, n27_114, e27_115])), hF_4⟩))
    · skip
      refine gx_tableIn (off := 118) (tgt := 145) C dX2_readOrder_27 (by rw [sw_27]; decide) (by rw [sw_27]; decide) (by rw [sw_27]; rfl) (by decide) ?_
      have e27_116 : (sg (q.1 0) n p0) = 116 := gsw_eq sw_27 (by decide)
      have n27_98 : ¬ (sg (q.1 0) n p0) = 98 := gsw_n2 e27_116 (by decide)
      have n27_99 : ¬ (sg (q.1 0) n p0) = 99 := gsw_n2 e27_116 (by decide)
      have n27_100 : ¬ (sg (q.1 0) n p0) = 100 := gsw_n2 e27_116 (by decide)
      have n27_101 : ¬ (sg (q.1 0) n p0) = 101 := gsw_n2 e27_116 (by decide)
      have n27_102 : ¬ (sg (q.1 0) n p0) = 102 := gsw_n2 e27_116 (by decide)
      have n27_103 : ¬ (sg (q.1 0) n p0) = 103 := gsw_n2 e27_116 (by decide)
      have n27_104 : ¬ (sg (q.1 0) n p0) = 104 := gsw_n2 e27_116 (by decide)
      have n27_105 : ¬ (sg (q.1 0) n p0) = 105 := gsw_n2 e27_116 (by decide)
      have n27_106 : ¬ (sg (q.1 0) n p0) = 106 := gsw_n2 e27_116 (by decide)
      have n27_107 : ¬ (sg (q.1 0) n p0) = 107 := gsw_n2 e27_116 (by decide)
      have n27_108 : ¬ (sg (q.1 0) n p0) = 108 := gsw_n2 e27_116 (by decide)
      have n27_109 : ¬ (sg (q.1 0) n p0) = 109 := gsw_n2 e27_116 (by decide)
      have n27_110 : ¬ (sg (q.1 0) n p0) = 110 := gsw_n2 e27_116 (by decide)
      have n27_111 : ¬ (sg (q.1 0) n p0) = 111 := gsw_n2 e27_116 (by decide)
      have n27_112 : ¬ (sg (q.1 0) n p0) = 112 := gsw_n2 e27_116 (by decide)
      have n27_113 : ¬ (sg (q.1 0) n p0) = 113 := gsw_n2 e27_116 (by decide)
      have n27_114 : ¬ (sg (q.1 0) n p0) = 114 := gsw_n2 e27_116 (by decide)
      have n27_115 : ¬ (sg (q.1 0) n p0) = 115 := gsw_n2 e27_116 (by decide)
      refine gx_aload_n (q := 0) C dX2_readOrder_145 rfl ?_
      refine gx_bipush (v := 116) C dX2_readOrder_146 (by decide) ?_
      refine gx_callM C hD (k_X2_skip l hL hW_4 hn hn2 (by omega) _) (isDS_in hW_4 0 (Nat.le_of_ble_eq_true rfl)) (isDS_0 hW_4) rfl (cwV 1 C.2.2.2.2.1 gX2_readOrder_X2_skip rfl rfl rfl kdV_X2_skip ⟨Nat.le_of_ble_eq_true rfl, Nat.le_of_ble_eq_true rfl⟩) rfl rfl (Nat.le_of_ble_eq_true rfl) ⟨Nat.le_of_ble_eq_true rfl, Nat.le_of_ble_eq_true rfl⟩ dX2_readOrder_148 (fun v_18 f_18 hp_18 => ?_)
      rcases hp_18 with ⟨hc_18_0, rfl, hW_18, hG_18⟩ | ⟨hc_18_0, rfl, hW_18, hG_18⟩
      · skip
        have hF_18 := gFr_tr hF_4 hG_18
        refine gx_cons ?_
        have hz_18 := sg_ne hc_18_0 (by decide)
        have hq_18_0 : sg (q.1 0) n p0 = 116 := hc_18_0
        refine gx_if_eq (tgt := 165) C dX2_readOrder_151 (by decide) (fun c_151 => ?_) (fun c_151 => ?_)
        exact absurd c_151 (by decide)
        refine gx_aload_n (q := 0) C dX2_readOrder_154 rfl ?_
        refine gx_callM C hD (k_X2_readThrow l hL hW_18 hn hn2 (by omega)) (isDS_in hW_18 0 (Nat.le_of_ble_eq_true rfl)) (isDS_0 hW_18) rfl (cwV 0 C.2.2.2.2.1 gX2_readOrder_X2_readThrow rfl rfl rfl kdV_X2_readThrow ⟨Nat.le_of_ble_eq_true rfl, Nat.le_of_ble_eq_true rfl⟩) rfl rfl (Nat.le_of_ble_eq_true rfl) ⟨Nat.le_of_ble_eq_true rfl, Nat.le_of_ble_eq_true rfl⟩ dX2_readOrder_155 (fun v_19 f_19 hp_19 => ?_)
        rcases hp_19 with ⟨hc_19_0, hc_19_1, hc_19_2, rfl, hW_19, hG_19⟩ | ⟨hc_19_0, rfl, kd_19, a_19, b_19, c_19, hW_19, hG_19⟩ | ⟨hc_19_0, hc_19_1, rfl, kd_19, a_19, b_19, c_19, hW_19, hG_19⟩ | ⟨hc_19_0, hc_19_1, hc_19_2, rfl, kd_19, a_19, b_19, c_19, hW_19, hG_19⟩
        · skip
          have hF_19 := gFr_tr hF_18 hG_19
          refine gx_cons ?_
          have hq_19_0 : isD (sg (q.1 0) n (p0 + 1)) = true := hc_19_0
          have hq_19_1 : sg (q.1 0) n (p0 + 2) = 42 := hc_19_1
          have hq_19_2 : isD (sg (q.1 0) n (p0 + 3)) = true := hc_19_2
          refine gx_if_eq (tgt := 165) C dX2_readOrder_158 (by decide) (fun c_158 => ?_) (fun c_158 => ?_)
          exact absurd c_158 (by decide)
          refine gx_iconst (v := 1) C dX2_readOrder_161 (by decide) ?_
          refine gx_goto (tgt := 166) C dX2_readOrder_162 (by decide) ?_
          exact gx_zretM C hr (Or.inr rfl) dX2_readOrder_166 (Or.inl ⟨(by simp [ordr, n27_98, n27_99, n27_100, n27_101, n27_102, n27_103, n27_104, n27_105, n27_106, n27_107, n27_108, n27_109, n27_110, n27_111, n27_112, n27_113, n27_114, n27_115, e27_116, hq_18_0, hq_19_0, hq_19_1, hq_19_2]), rfl, (isDS_same hW_19 (by simp [ordr, n27_98, n27_99, n27_100, n27_101, n27_102, n27_103, n27_104, n27_105, n27_106, n27_107, n27_108, n27_109, n27_110, n27_111, n27_112, n27_113, n27_114, n27_115, e27_116, hq_18_0, hq_19_0, hq_19_1, hq_19_2])), hF_19⟩)
        · skip
          have hF_19 := gFr_tr hF_18 hG_19
          refine gx_cons ?_
          have hq_19_0 : isD (sg (q.1 0) n (p0 + 1)) = false := hc_19_0
          refine gx_if_eq (tgt := 165) C dX2_readOrder_158 (by decide) (fun c_158 => ?_) (fun c_158 => ?_)
          refine gx_iconst (v := 0) C dX2_readOrder_165 (by decide) ?_
          exact gx_zretM C hr (Or.inl rfl) dX2_readOrder_166 (Or.inr (⟨(by simp [ordr, n27_98, n27_99, n27_100, n27_101, n27_102, n27_103, n27_104, n27_105, n27_106, n27_107, n27_108, n27_109, n27_110, n27_111, n27_112, n27_113, n27_114, n27_115, e27_116, hq_18_0, hq_19_0]), rfl, kd_19, a_19, b_19, c_19, (isDS_same hW_19 (by simp [ordr, n27_98, n27_99, n27_100, n27_101, n27_102, n27_103, n27_104, n27_105, n27_106, n27_107, n27_108, n27_109, n27_110, n27_111, n27_112, n27_113, n27_114, n27_115, e27_116, hq_18_0, hq_19_0])), hF_19⟩))
          exact absurd (by decide) c_158
        · skip
          have hF_19 := gFr_tr hF_18 hG_19
          refine gx_cons ?_
          have hq_19_0 : isD (sg (q.1 0) n (p0 + 1)) = true := hc_19_0
          have hq_19_1 : ¬ sg (q.1 0) n (p0 + 2) = 42 := hc_19_1
          refine gx_if_eq (tgt := 165) C dX2_readOrder_158 (by decide) (fun c_158 => ?_) (fun c_158 => ?_)
          refine gx_iconst (v := 0) C dX2_readOrder_165 (by decide) ?_
          exact gx_zretM C hr (Or.inl rfl) dX2_readOrder_166 (Or.inr (⟨(by simp [ordr, n27_98, n27_99, n27_100, n27_101, n27_102, n27_103, n27_104, n27_105, n27_106, n27_107, n27_108, n27_109, n27_110, n27_111, n27_112, n27_113, n27_114, n27_115, e27_116, hq_18_0, hq_19_0, hq_19_1]), rfl, kd_19, a_19, b_19, c_19, (isDS_same hW_19 (by simp [ordr, n27_98, n27_99, n27_100, n27_101, n27_102, n27_103, n27_104, n27_105, n27_106, n27_107, n27_108, n27_109, n27_110, n27_111, n27_112, n27_113, n27_114, n27_115, e27_116, hq_18_0, hq_19_0, hq_19_1])), hF_19⟩))
          exact absurd (by decide) c_158
        · skip
          have hF_19 := gFr_tr hF_18 hG_19
          refine gx_cons ?_
          have hq_19_0 : isD (sg (q.1 0) n (p0 + 1)) = true := hc_19_0
          have hq_19_1 : sg (q.1 0) n (p0 + 2) = 42 := hc_19_1
          have hq_19_2 : isD (sg (q.1 0) n (p0 + 3)) = false := hc_19_2
          refine gx_if_eq (tgt := 165) C dX2_readOrder_158 (by decide) (fun c_158 => ?_) (fun c_158 => ?_)
          refine gx_iconst (v := 0) C dX2_readOrder_165 (by decide) ?_
          exact gx_zretM C hr (Or.inl rfl) dX2_readOrder_166 (Or.inr (⟨(by simp [ordr, n27_98, n27_99, n27_100, n27_101, n27_102, n27_103, n27_104, n27_105, n27_106, n27_107, n27_108, n27_109, n27_110, n27_111, n27_112, n27_113, n27_114, n27_115, e27_116, hq_18_0, hq_19_0, hq_19_1, hq_19_2]), rfl, kd_19, a_19, b_19, c_19, (isDS_same hW_19 (by simp [ordr, n27_98, n27_99, n27_100, n27_101, n27_102, n27_103, n27_104, n27_105, n27_106, n27_107, n27_108, n27_109, n27_110, n27_111, n27_112, n27_113, n27_114, n27_115, e27_116, hq_18_0, hq_19_0, hq_19_1, hq_19_2])), hF_19⟩))
          exact absurd (by decide) c_158
      · skip
        have hF_18 := gFr_tr hF_4 hG_18
        refine gx_cons ?_
        exact absurd e27_116 hc_18_0
theorem kdN_X2_length : yX2_length.cls ≠ "java/lang/invoke/MethodHandle" ∧ yX2_length.cls ≠ "java/lang/invoke/VarHandle" ∧ (parseMethodDescriptor yX2_length.desc).map (fun d => d.parameters.length) = some 0 := by decide +kernel
theorem kdV_X2_length : yX2_length.cls = RX2 ∧ yX2_length.cls ≠ "java/lang/invoke/MethodHandle" ∧ yX2_length.cls ≠ "java/lang/invoke/VarHandle" ∧ (parseMethodDescriptor yX2_length.desc).map (fun d => d.parameters.length) = some 0 := ⟨rfl, kdN_X2_length⟩
theorem in_X2_length_2 : ∀ w ∈ u_ws RX2 TX2 7, w ∈ wsX2_length := by decide +kernel
theorem fl_X2_length_15 : Cond.fieldLink RX2 15 (TX2 1).1 (TX2 1).2.1 (TX2 1).2.2.1 ∈ wsX2_length := by decide +kernel
abbrev rmX2_length : Room := { frames := 0, cells := 0, slots := 0, locals := 0 }
set_option maxHeartbeats 4000000 in
set_option maxRecDepth 100000 in
theorem k_X2_length (l : Launch) {k : gK} {L : List Nat} {f : Nat → va_E} {d : Nat → Nat} {q : DS} (hW : isDS k L f d q)  : kR l k L f yX2_length wsX2_length rmX2_length [.ref (d 0)] (.int (q.2 0)) := by
  refine kR_of (cc := cX2_length) (maxL := 1) (ret := (some .int)) (by decide) rfl (Nat.le_of_ble_eq_true rfl) ?_
  intro p e s m args below meth c C hr
  refine gx_lv [(0, _)] [0] rfl ?_
  refine gx_aload_n (q := 0) C dX2_length_0 rfl ?_
  refine gx_get C (i := 1) (isDS_in hW 0 (Nat.le_of_ble_eq_true rfl)) (isDS_0 hW) rfl in_X2_length_2 (by decide) fl_X2_length_15 rfl dX2_length_1 ?_
  exact gx_iretR C rfl hr dX2_length_4 (congrArg Value.int (by rfl))
theorem kdN_X2_kind : yX2_kind.cls ≠ "java/lang/invoke/MethodHandle" ∧ yX2_kind.cls ≠ "java/lang/invoke/VarHandle" ∧ (parseMethodDescriptor yX2_kind.desc).map (fun d => d.parameters.length) = some 0 := by decide +kernel
theorem kdV_X2_kind : yX2_kind.cls = RX2 ∧ yX2_kind.cls ≠ "java/lang/invoke/MethodHandle" ∧ yX2_kind.cls ≠ "java/lang/invoke/VarHandle" ∧ (parseMethodDescriptor yX2_kind.desc).map (fun d => d.parameters.length) = some 0 := ⟨rfl, kdN_X2_kind⟩
theorem in_X2_kind_2 : ∀ w ∈ u_ws RX2 TX2 7, w ∈ wsX2_kind := by decide +kernel
theorem fl_X2_kind_19 : Cond.fieldLink RX2 19 (TX2 3).1 (TX2 3).2.1 (TX2 3).2.2.1 ∈ wsX2_kind := by decide +kernel
abbrev rmX2_kind : Room := { frames := 0, cells := 0, slots := 0, locals := 0 }
set_option maxHeartbeats 4000000 in
set_option maxRecDepth 100000 in
theorem k_X2_kind (l : Launch) {k : gK} {L : List Nat} {f : Nat → va_E} {d : Nat → Nat} {q : DS} (hW : isDS k L f d q)  : kR l k L f yX2_kind wsX2_kind rmX2_kind [.ref (d 0)] (.int (q.2 2)) := by
  refine kR_of (cc := cX2_kind) (maxL := 1) (ret := (some .int)) (by decide) rfl (Nat.le_of_ble_eq_true rfl) ?_
  intro p e s m args below meth c C hr
  refine gx_lv [(0, _)] [0] rfl ?_
  refine gx_aload_n (q := 0) C dX2_kind_0 rfl ?_
  refine gx_get C (i := 3) (isDS_in hW 0 (Nat.le_of_ble_eq_true rfl)) (isDS_0 hW) rfl in_X2_kind_2 (by decide) fl_X2_kind_19 rfl dX2_kind_1 ?_
  exact gx_iretR C rfl hr dX2_kind_4 (congrArg Value.int (by rfl))
theorem kdN_X2_first : yX2_first.cls ≠ "java/lang/invoke/MethodHandle" ∧ yX2_first.cls ≠ "java/lang/invoke/VarHandle" ∧ (parseMethodDescriptor yX2_first.desc).map (fun d => d.parameters.length) = some 0 := by decide +kernel
theorem kdV_X2_first : yX2_first.cls = RX2 ∧ yX2_first.cls ≠ "java/lang/invoke/MethodHandle" ∧ yX2_first.cls ≠ "java/lang/invoke/VarHandle" ∧ (parseMethodDescriptor yX2_first.desc).map (fun d => d.parameters.length) = some 0 := ⟨rfl, kdN_X2_first⟩
theorem in_X2_first_2 : ∀ w ∈ u_ws RX2 TX2 7, w ∈ wsX2_first := by decide +kernel
theorem fl_X2_first_22 : Cond.fieldLink RX2 22 (TX2 4).1 (TX2 4).2.1 (TX2 4).2.2.1 ∈ wsX2_first := by decide +kernel
abbrev rmX2_first : Room := { frames := 0, cells := 0, slots := 0, locals := 0 }
set_option maxHeartbeats 4000000 in
set_option maxRecDepth 100000 in
theorem k_X2_first (l : Launch) {k : gK} {L : List Nat} {f : Nat → va_E} {d : Nat → Nat} {q : DS} (hW : isDS k L f d q)  : kR l k L f yX2_first wsX2_first rmX2_first [.ref (d 0)] (.int (q.2 3)) := by
  refine kR_of (cc := cX2_first) (maxL := 1) (ret := (some .int)) (by decide) rfl (Nat.le_of_ble_eq_true rfl) ?_
  intro p e s m args below meth c C hr
  refine gx_lv [(0, _)] [0] rfl ?_
  refine gx_aload_n (q := 0) C dX2_first_0 rfl ?_
  refine gx_get C (i := 4) (isDS_in hW 0 (Nat.le_of_ble_eq_true rfl)) (isDS_0 hW) rfl in_X2_first_2 (by decide) fl_X2_first_22 rfl dX2_first_1 ?_
  exact gx_iretR C rfl hr dX2_first_4 (congrArg Value.int (by rfl))
theorem kdN_X2_second : yX2_second.cls ≠ "java/lang/invoke/MethodHandle" ∧ yX2_second.cls ≠ "java/lang/invoke/VarHandle" ∧ (parseMethodDescriptor yX2_second.desc).map (fun d => d.parameters.length) = some 0 := by decide +kernel
theorem kdV_X2_second : yX2_second.cls = RX2 ∧ yX2_second.cls ≠ "java/lang/invoke/MethodHandle" ∧ yX2_second.cls ≠ "java/lang/invoke/VarHandle" ∧ (parseMethodDescriptor yX2_second.desc).map (fun d => d.parameters.length) = some 0 := ⟨rfl, kdN_X2_second⟩
theorem in_X2_second_2 : ∀ w ∈ u_ws RX2 TX2 7, w ∈ wsX2_second := by decide +kernel
theorem fl_X2_second_25 : Cond.fieldLink RX2 25 (TX2 5).1 (TX2 5).2.1 (TX2 5).2.2.1 ∈ wsX2_second := by decide +kernel
abbrev rmX2_second : Room := { frames := 0, cells := 0, slots := 0, locals := 0 }
set_option maxHeartbeats 4000000 in
set_option maxRecDepth 100000 in
theorem k_X2_second (l : Launch) {k : gK} {L : List Nat} {f : Nat → va_E} {d : Nat → Nat} {q : DS} (hW : isDS k L f d q)  : kR l k L f yX2_second wsX2_second rmX2_second [.ref (d 0)] (.int (q.2 4)) := by
  refine kR_of (cc := cX2_second) (maxL := 1) (ret := (some .int)) (by decide) rfl (Nat.le_of_ble_eq_true rfl) ?_
  intro p e s m args below meth c C hr
  refine gx_lv [(0, _)] [0] rfl ?_
  refine gx_aload_n (q := 0) C dX2_second_0 rfl ?_
  refine gx_get C (i := 5) (isDS_in hW 0 (Nat.le_of_ble_eq_true rfl)) (isDS_0 hW) rfl in_X2_second_2 (by decide) fl_X2_second_25 rfl dX2_second_1 ?_
  exact gx_iretR C rfl hr dX2_second_4 (congrArg Value.int (by rfl))
theorem kdN_X2_third : yX2_third.cls ≠ "java/lang/invoke/MethodHandle" ∧ yX2_third.cls ≠ "java/lang/invoke/VarHandle" ∧ (parseMethodDescriptor yX2_third.desc).map (fun d => d.parameters.length) = some 0 := by decide +kernel
theorem kdV_X2_third : yX2_third.cls = RX2 ∧ yX2_third.cls ≠ "java/lang/invoke/MethodHandle" ∧ yX2_third.cls ≠ "java/lang/invoke/VarHandle" ∧ (parseMethodDescriptor yX2_third.desc).map (fun d => d.parameters.length) = some 0 := ⟨rfl, kdN_X2_third⟩
theorem in_X2_third_2 : ∀ w ∈ u_ws RX2 TX2 7, w ∈ wsX2_third := by decide +kernel
theorem fl_X2_third_28 : Cond.fieldLink RX2 28 (TX2 6).1 (TX2 6).2.1 (TX2 6).2.2.1 ∈ wsX2_third := by decide +kernel
abbrev rmX2_third : Room := { frames := 0, cells := 0, slots := 0, locals := 0 }
set_option maxHeartbeats 4000000 in
set_option maxRecDepth 100000 in
theorem k_X2_third (l : Launch) {k : gK} {L : List Nat} {f : Nat → va_E} {d : Nat → Nat} {q : DS} (hW : isDS k L f d q)  : kR l k L f yX2_third wsX2_third rmX2_third [.ref (d 0)] (.int (q.2 5)) := by
  refine kR_of (cc := cX2_third) (maxL := 1) (ret := (some .int)) (by decide) rfl (Nat.le_of_ble_eq_true rfl) ?_
  intro p e s m args below meth c C hr
  refine gx_lv [(0, _)] [0] rfl ?_
  refine gx_aload_n (q := 0) C dX2_third_0 rfl ?_
  refine gx_get C (i := 6) (isDS_in hW 0 (Nat.le_of_ble_eq_true rfl)) (isDS_0 hW) rfl in_X2_third_2 (by decide) fl_X2_third_28 rfl dX2_third_1 ?_
  exact gx_iretR C rfl hr dX2_third_4 (congrArg Value.int (by rfl))
theorem kdN_X2_rewind : yX2_rewind.cls ≠ "java/lang/invoke/MethodHandle" ∧ yX2_rewind.cls ≠ "java/lang/invoke/VarHandle" ∧ (parseMethodDescriptor yX2_rewind.desc).map (fun d => d.parameters.length) = some 0 := by decide +kernel
theorem kdV_X2_rewind : yX2_rewind.cls = RX2 ∧ yX2_rewind.cls ≠ "java/lang/invoke/MethodHandle" ∧ yX2_rewind.cls ≠ "java/lang/invoke/VarHandle" ∧ (parseMethodDescriptor yX2_rewind.desc).map (fun d => d.parameters.length) = some 0 := ⟨rfl, kdN_X2_rewind⟩
def wX2_rewind (q : DS)  : DS := (dSc q 1 0)
theorem in_X2_rewind_2 : ∀ w ∈ u_ws RX2 TX2 7, w ∈ wsX2_rewind := by decide +kernel
theorem fl_X2_rewind_52 : Cond.fieldLink RX2 52 (TX2 2).1 (TX2 2).2.1 (TX2 2).2.2.1 ∈ wsX2_rewind := by decide +kernel
abbrev rmX2_rewind : Room := { frames := 0, cells := 0, slots := 0, locals := 0 }
set_option maxHeartbeats 4000000 in
set_option maxRecDepth 100000 in
theorem k_X2_rewind (l : Launch) {k : gK} {L : List Nat} {f : Nat → va_E} (hL : L.Nodup) {d : Nat → Nat} {q : DS} (hW : isDS k L f d q)  : kM l k L f yX2_rewind wsX2_rewind rmX2_rewind [.ref (d 0)] (dP k L d f none (wX2_rewind q )) := by
  refine kM_of (cc := cX2_rewind) (maxL := 1) (ret := none) (by decide) rfl (Nat.le_of_ble_eq_true rfl) ?_
  intro p e s m args below meth c C hr
  have hD : gD (fun q => q ∈ L) L := ⟨hL, fun _ h => h⟩
  refine gx_lv [(0, _)] [0] rfl ?_
  refine gx_aload_n (q := 0) C dX2_rewind_0 rfl ?_
  refine gx_iconst (v := 0) C dX2_rewind_1 (by decide) ?_
  refine gx_put C hD (i := 2) (ty := .int) tyX2_ok nmX2 (isDS_in hW 0 (Nat.le_of_ble_eq_true rfl)) (isDS_0 hW) rfl in_X2_rewind_2 (by decide) fl_X2_rewind_52 rfl (by decide +kernel) rfl rfl (Nat.le_of_ble_eq_true rfl) rfl dX2_rewind_2 ?_
  refine gx_Ds1 hW (gFr_rf (f := f)) (fun f_1 hW_1 hF_1 => ?_)
  exact gx_vretD C hr hW_1 hF_1 dX2_rewind_5 (rfl).symm
theorem kdN_X2_clear : yX2_clear.cls ≠ "java/lang/invoke/MethodHandle" ∧ yX2_clear.cls ≠ "java/lang/invoke/VarHandle" ∧ (parseMethodDescriptor yX2_clear.desc).map (fun d => d.parameters.length) = some 0 := by decide +kernel
theorem kdV_X2_clear : yX2_clear.cls = RX2 ∧ yX2_clear.cls ≠ "java/lang/invoke/MethodHandle" ∧ yX2_clear.cls ≠ "java/lang/invoke/VarHandle" ∧ (parseMethodDescriptor yX2_clear.desc).map (fun d => d.parameters.length) = some 0 := ⟨rfl, kdN_X2_clear⟩
theorem k_X2_rewindC (l : Launch) {k : gK} {L : List Nat} {f : Nat → va_E} (hL : L.Nodup) {d : Nat → Nat} {q : DS} (hW : isDS k L f d q) : kM l k L f yX2_rewind wsX2_rewind rmX2_rewind [.ref (d 0)] (fun v2 f2 => v2 = none ∧ isDS k L f2 d (dC q 0 (q.2 2) (q.2 3) (q.2 4) (q.2 5)) ∧ gFr d 2 f f2) :=
  kM_mono (fun v f2 h => ⟨h.1, isDS_same h.2.1 (dC_z q), h.2.2⟩) (k_X2_rewind l hL hW)
def vX2_clear (q : DS)  : Int32 := (q.2 0)
def wX2_clear (q : DS)  : DS := (dSc q 0 0)
theorem in_X2_clear_2 : ∀ w ∈ u_ws RX2 TX2 7, w ∈ wsX2_clear := by decide +kernel
theorem fl_X2_clear_15 : Cond.fieldLink RX2 15 (TX2 1).1 (TX2 1).2.1 (TX2 1).2.2.1 ∈ wsX2_clear := by decide +kernel
abbrev rmX2_clear : Room := { frames := 0, cells := 0, slots := 0, locals := 0 }
set_option maxHeartbeats 4000000 in
set_option maxRecDepth 100000 in
theorem k_X2_clear (l : Launch) {k : gK} {L : List Nat} {f : Nat → va_E} (hL : L.Nodup) {d : Nat → Nat} {q : DS} (hW : isDS k L f d q)  : kM l k L f yX2_clear wsX2_clear rmX2_clear [.ref (d 0)] (dP k L d f (some (.int (vX2_clear q ))) (wX2_clear q )) := by
  refine kM_of (cc := cX2_clear) (maxL := 2) (ret := (some .int)) (by decide) rfl (Nat.le_of_ble_eq_true rfl) ?_
  intro p e s m args below meth c C hr
  have hD : gD (fun q => q ∈ L) L := ⟨hL, fun _ h => h⟩
  refine gx_lv [(0, _)] [0] rfl ?_
  refine gx_aload_n (q := 0) C dX2_clear_0 rfl ?_
  refine gx_get C (i := 1) (isDS_in hW 0 (Nat.le_of_ble_eq_true rfl)) (isDS_0 hW) rfl in_X2_clear_2 (by decide) fl_X2_clear_15 rfl dX2_clear_1 ?_
  refine gx_istore_n C (i := 1) [(1, _), (0, _)] dX2_clear_4 rfl (by decide) rfl ?_
  refine gx_aload_n (q := 1) C dX2_clear_5 rfl ?_
  refine gx_iconst (v := 0) C dX2_clear_6 (by decide) ?_
  refine gx_put C hD (i := 1) (ty := .int) tyX2_ok nmX2 (isDS_in hW 0 (Nat.le_of_ble_eq_true rfl)) (isDS_0 hW) rfl in_X2_clear_2 (by decide) fl_X2_clear_15 rfl (by decide +kernel) rfl rfl (Nat.le_of_ble_eq_true rfl) rfl dX2_clear_7 ?_
  refine gx_Ds0 hW (gFr_rf (f := f)) (fun f_1 hW_1 hF_1 => ?_)
  refine gx_iload_n (q := 0) C dX2_clear_10 rfl ?_
  exact gx_iretD C hr hW_1 hF_1 dX2_clear_11 (rfl).symm (rfl).symm
