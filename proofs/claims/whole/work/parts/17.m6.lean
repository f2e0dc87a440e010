theorem kdN_X7_of : yX7_of.cls ≠ "java/lang/invoke/MethodHandle" ∧ yX7_of.cls ≠ "java/lang/invoke/VarHandle" ∧ (parseMethodDescriptor yX7_of.desc).map (fun d => d.parameters.length) = some 2 := by decide +kernel
theorem kdV_X7_of : yX7_of.cls = RX7 ∧ yX7_of.cls ≠ "java/lang/invoke/MethodHandle" ∧ yX7_of.cls ≠ "java/lang/invoke/VarHandle" ∧ (parseMethodDescriptor yX7_of.desc).map (fun d => d.parameters.length) = some 2 := ⟨rfl, kdN_X7_of⟩
def vX7_of (y : MS) (q : Int32) (what : Int32) : Int32 := (if (vX7_isPot y q) = true then (if what = 0 then (y.1 0 (35 + 9 * (cl q) + 0)) else (if what = 1 then (y.1 0 (35 + 9 * (cl q) + 1)) else (if what = 2 then (y.1 0 (35 + 9 * (cl q) + 3)) else (if what = 3 then (y.1 0 (35 + 9 * (cl q) + 4)) else (if what = 4 then (if (y.1 0 (35 + 9 * (cl q) + 4)) = 0 then (y.1 0 (35 + 9 * (cl q) + 5)) else (-6)) else (if what = 5 then (y.1 0 (35 + 9 * (cl q) + 6)) else (if what = 6 then (if (y.1 0 (35 + 9 * (cl q) + 8)) ≤ 0 then (-6) else (y.1 0 (35 + 9 * (cl q) + 2))) else (if what = 7 then (y.1 0 (35 + 9 * (cl q) + 7)) else (if what = 8 then (y.1 0 (35 + 9 * (cl q) + 8)) else (-2)))))))))) else (-1))
abbrev rmX7_of : Room := { frames := 2, cells := 0, slots := 0, locals := 43 }
set_option maxHeartbeats 4000000 in
set_option maxRecDepth 100000 in
theorem k_X7_of (l : Launch) {k : gK} {L : List Nat} {f : Nat → va_E} {o : Nat → Nat} {y : MS} (hW : isMS k L f o y) (hM : mOK y) (q : Int32) (what : Int32) : kR l k L f yX7_of wsX7_of rmX7_of [.ref (o 0), .int q, .int what] (.int (vX7_of y q what)) := by
  refine kR_of (cc := cX7_of) (maxL := 3) (ret := (some .int)) (by decide) rfl (Nat.le_of_ble_eq_true rfl) ?_
  intro p e s m args below meth c C hr
  refine gx_lv [(0, _), (1, _), (2, _)] [0, 1, 2] rfl ?_
  refine gx_aload_n (q := 0) C dX7_of_0 rfl ?_
  refine gx_iload_n (q := 1) C dX7_of_1 rfl ?_
  refine gx_callR C (k_X7_isPot l hW _) (isMS_in hW 0 (Nat.le_of_ble_eq_true rfl)) (isMS_0 hW) rfl (cwV 1 C.2.2.2.2.1 gX7_of_X7_isPot rfl rfl rfl kdV_X7_isPot ⟨Nat.le_of_ble_eq_true rfl, Nat.le_of_ble_eq_true rfl⟩) rfl rfl (Nat.le_of_ble_eq_true rfl) ⟨Nat.le_of_ble_eq_true rfl, Nat.le_of_ble_eq_true rfl⟩ dX7_of_2 ?_
  refine gx_if_ne (tgt := 10) C dX7_of_5 (by decide) (fun c_5 => ?_) (fun c_5 => ?_)
  · skip
    have h_5 := bI1.mp c_5
    obtain ⟨n_q, b_q⟩ := mPot hM h_5
    have bb_q := (hM).2
    refine gx_iload_n (q := 2) C dX7_of_10 rfl ?_
    refine gsw_split 0 8 what ?_ ?_
    · intro sw_11
      refine gx_tableOut (tgt := 155) C dX7_of_11 sw_11 (by decide) ?_
      have n11_0 : ¬ what = 0 := gsw_ne sw_11 (by decide)
      have n11_1 : ¬ what = 1 := gsw_ne sw_11 (by decide)
      have n11_2 : ¬ what = 2 := gsw_ne sw_11 (by decide)
      have n11_3 : ¬ what = 3 := gsw_ne sw_11 (by decide)
      have n11_4 : ¬ what = 4 := gsw_ne sw_11 (by decide)
      have n11_5 : ¬ what = 5 := gsw_ne sw_11 (by decide)
      have n11_6 : ¬ what = 6 := gsw_ne sw_11 (by decide)
      have n11_7 : ¬ what = 7 := gsw_ne sw_11 (by decide)
      have n11_8 : ¬ what = 8 := gsw_ne sw_11 (by decide)
      refine gx_bipush (v := (-2)) C dX7_of_155 (by decide) ?_
      exact gx_iretR C rfl hr dX7_of_157 (congrArg Value.int ((if_pos h_5).trans ((if_neg n11_0).trans ((if_neg n11_1).trans ((if_neg n11_2).trans ((if_neg n11_3).trans ((if_neg n11_4).trans ((if_neg n11_5).trans ((if_neg n11_6).trans ((if_neg n11_7).trans ((if_neg n11_8).trans (rfl))))))))))).symm)
    · intro j hj1 hj2 sw_11
      obtain rfl | rfl | rfl | rfl | rfl | rfl | rfl | rfl | rfl : j = 0 ∨ j = 1 ∨ j = 2 ∨ j = 3 ∨ j = 4 ∨ j = 5 ∨ j = 6 ∨ j = 7 ∨ j = 8 := by omega
      · skip
        refine gx_tableIn (off := 49) (tgt := 60) C dX7_of_11 (by rw [sw_11]; decide) (by rw [sw_11]; decide) (by rw [sw_11]; rfl) (by decide) ?_
        have e11_0 : what = 0 := gsw_eq sw_11 (by decide)
        refine gx_aload_n (q := 0) C dX7_of_60 rfl ?_
        refine gx_iload_n (q := 1) C dX7_of_61 rfl ?_
        refine gx_iconst (v := 0) C dX7_of_62 (by decide) ?_
        refine gx_callR C (k_X7_pot l hW _ _ (i := (cl q)) n_q (by omega) (j := 0) (nLit 0) (by omega)) (isMS_in hW 0 (Nat.le_of_ble_eq_true rfl)) (isMS_0 hW) rfl (cwV 2 C.2.2.2.2.1 gX7_of_X7_pot rfl rfl rfl kdV_X7_pot ⟨Nat.le_of_ble_eq_true rfl, Nat.le_of_ble_eq_true rfl⟩) rfl rfl (Nat.le_of_ble_eq_true rfl) ⟨Nat.le_of_ble_eq_true rfl, Nat.le_of_ble_eq_true rfl⟩ dX7_of_63 ?_
        exact gx_iretR C rfl hr dX7_of_66 (congrArg Value.int ((if_pos h_5).trans ((if_pos e11_0).trans (rfl))).symm)
      · skip
        refine gx_tableIn (off := 56) (tgt := 67) C dX7_of_11 (by rw [sw_11]; decide) (by rw [sw_11]; decide) (by rw [sw_11]; rfl) (by decide) ?_
        have e11_1 : what = 1 := gsw_eq sw_11 (by decide)
        have n11_0 : ¬ what = 0 := gsw_n2 e11_1 (by decide)
        refine gx_aload_n (q := 0) C dX7_of_67 rfl ?_
        refine gx_iload_n (q := 1) C dX7_of_68 rfl ?_
        refine gx_iconst (v := 1) C dX7_of_69 (by decide) ?_
        refine gx_callR C (k_X7_pot l hW _ _ (i := (cl q)) n_q (by omega) (j := 1) (nLit 1) (by omega)) (isMS_in hW 0 (Nat.le_of_ble_eq_true rfl)) (isMS_0 hW) rfl (cwV 2 C.2.2.2.2.1 gX7_of_X7_pot rfl rfl rfl kdV_X7_pot ⟨Nat.le_of_ble_eq_true rfl, Nat.le_of_ble_eq_true rfl⟩) rfl rfl (Nat.le_of_ble_eq_true rfl) ⟨Nat.le_of_ble_eq_true rfl, Nat.le_of_ble_eq_true rfl⟩ dX7_of_70 ?_
        exact gx_iretR C rfl hr dX7_of_73 (congrArg Value.int ((if_pos h_5).trans ((if_neg n11_0).trans ((if_pos e11_1).trans (rfl)))).symm)
      · skip
        refine gx_tableIn (off := 63) (tgt := 74) C dX7_of_11 (by rw [sw_11]; decide) (by rw [sw_11]; decide) (by rw [sw_11]; rfl) (by decide) ?_
        have e11_2 : what = 2 := gsw_eq sw_11 (by decide)
        have n11_0 : ¬ what = 0 := gsw_n2 e11_2 (by decide)
        have n11_1 : ¬ what = 1 := gsw_n2 e11_2 (by decide)
        refine gx_aload_n (q := 0) C dX7_of_74 rfl ?_
        refine gx_iload_n (q := 1) C dX7_of_75 rfl ?_
        refine gx_iconst (v := 3) C dX7_of_76 (by decide) ?_
        refine gx_callR C (k_X7_pot l hW _ _ (i := (cl q)) n_q (by omega) (j := 3) (nLit 3) (by omega)) (isMS_in hW 0 (Nat.le_of_ble_eq_true rfl)) (isMS_0 hW) rfl (cwV 2 C.2.2.2.2.1 gX7_of_X7_pot rfl rfl rfl kdV_X7_pot ⟨Nat.le_of_ble_eq_true rfl, Nat.le_of_ble_eq_true rfl⟩) rfl rfl (Nat.le_of_ble_eq_true rfl) ⟨Nat.le_of_ble_eq_true rfl, Nat.le_of_ble_eq_true rfl⟩ dX7_of_77 ?_
        exact gx_iretR C rfl hr dX7_of_80 (congrArg Value.int ((if_pos h_5).trans ((if_neg n11_0).trans ((if_neg n11_1).trans ((if_pos e11_2).trans (rfl))))).symm)
      · skip
        refine gx_tableIn (off := 70) (tgt := 81) C dX7_of_11 (by rw [sw_11]; decide) (by rw [sw_11]; decide) (by rw [sw_11]; rfl) (by decide) ?_
        have e11_3 : what = 3 := gsw_eq sw_11 (by decide)
        have n11_0 : ¬ what = 0 := gsw_n2 e11_3 (by decide)
        have n11_1 : ¬ what = 1 := gsw_n2 e11_3 (by decide)
        have n11_2 : ¬ what = 2 := gsw_n2 e11_3 (by decide)
        refine gx_aload_n (q := 0) C dX7_of_81 rfl ?_
        refine gx_iload_n (q := 1) C dX7_of_82 rfl ?_
        refine gx_iconst (v := 4) C dX7_of_83 (by decide) ?_
        refine gx_callR C (k_X7_pot l hW _ _ (i := (cl q)) n_q (by omega) (j := 4) (nLit 4) (by omega)) (isMS_in hW 0 (Nat.le_of_ble_eq_true rfl)) (isMS_0 hW) rfl (cwV 2 C.2.2.2.2.1 gX7_of_X7_pot rfl rfl rfl kdV_X7_pot ⟨Nat.le_of_ble_eq_true rfl, Nat.le_of_ble_eq_true rfl⟩) rfl rfl (Nat.le_of_ble_eq_true rfl) ⟨Nat.le_of_ble_eq_true rfl, Nat.le_of_ble_eq_true rfl⟩ dX7_of_84 ?_
        exact gx_iretR C rfl hr dX7_of_87 (congrArg Value.int ((if_pos h_5).trans ((if_neg n11_0).trans ((if_neg n11_1).trans ((if_neg n11_2).trans ((if_pos e11_3).trans (rfl)))))).symm)
      · skip
        refine gx_tableIn (off := 77) (tgt := 88) C dX7_of_11 (by rw [sw_11]; decide) (by rw [sw_11]; decide) (by rw [sw_11]; rfl) (by decide) ?_
        have e11_4 : what = 4 := gsw_eq sw_11 (by decide)
        have n11_0 : ¬ what = 0 := gsw_n2 e11_4 (by decide)
        have n11_1 : ¬ what = 1 := gsw_n2 e11_4 (by decide)
        have n11_2 : ¬ what = 2 := gsw_n2 e11_4 (by decide)
        have n11_3 : ¬ what = 3 := gsw_n2 e11_4 (by decide)
        refine gx_aload_n (q := 0) C dX7_of_88 rfl ?_
        refine gx_iload_n (q := 1) C dX7_of_89 rfl ?_
        refine gx_iconst (v := 4) C dX7_of_90 (by decide) ?_
        refine gx_callR C (k_X7_pot l hW _ _ (i := (cl q)) n_q (by omega) (j := 4) (nLit 4) (by omega)) (isMS_in hW 0 (Nat.le_of_ble_eq_true rfl)) (isMS_0 hW) rfl (cwV 2 C.2.2.2.2.1 gX7_of_X7_pot rfl rfl rfl kdV_X7_pot ⟨Nat.le_of_ble_eq_true rfl, Nat.le_of_ble_eq_true rfl⟩) rfl rfl (Nat.le_of_ble_eq_true rfl) ⟨Nat.le_of_ble_eq_true rfl, Nat.le_of_ble_eq_true rfl⟩ dX7_of_91 ?_
        refine gx_if_ne (tgt := 106) C dX7_of_94 (by decide) (fun c_94 => ?_) (fun c_94 => ?_)
        · skip
          refine gx_bipush (v := (-6)) C dX7_of_106 (by decide) ?_
          exact gx_iretR C rfl hr dX7_of_108 (congrArg Value.int ((if_pos h_5).trans ((if_neg n11_0).trans ((if_neg n11_1).trans ((if_neg n11_2).trans ((if_neg n11_3).trans ((if_pos e11_4).trans ((if_neg c_94).trans (rfl)))))))).symm)
        · skip
          refine gx_aload_n (q := 0) C dX7_of_97 rfl ?_
          refine gx_iload_n (q := 1) C dX7_of_98 rfl ?_
          refine gx_iconst (v := 5) C dX7_of_99 (by decide) ?_
          refine gx_callR C (k_X7_pot l hW _ _ (i := (cl q)) n_q (by omega) (j := 5) (nLit 5) (by omega)) (isMS_in hW 0 (Nat.le_of_ble_eq_true rfl)) (isMS_0 hW) rfl (cwV 2 C.2.2.2.2.1 gX7_of_X7_pot rfl rfl rfl kdV_X7_pot ⟨Nat.le_of_ble_eq_true rfl, Nat.le_of_ble_eq_true rfl⟩) rfl rfl (Nat.le_of_ble_eq_true rfl) ⟨Nat.le_of_ble_eq_true rfl, Nat.le_of_ble_eq_true rfl⟩ dX7_of_100 ?_
          refine gx_goto (tgt := 108) C dX7_of_103 (by decide) ?_
          exact gx_iretR C rfl hr dX7_of_108 (congrArg Value.int ((if_pos h_5).trans ((if_neg n11_0).trans ((if_neg n11_1).trans ((if_neg n11_2).trans ((if_neg n11_3).trans ((if_pos e11_4).trans ((if_pos c_94).trans (rfl)))))))).symm)
      · skip
        refine gx_tableIn (off := 98) (tgt := 109) C dX7_of_11 (by rw [sw_11]; decide) (by rw [sw_11]; decide) (by rw [sw_11]; rfl) (by decide) ?_
        have e11_5 : what = 5 := gsw_eq sw_11 (by decide)
        have n11_0 : ¬ what = 0 := gsw_n2 e11_5 (by decide)
        have n11_1 : ¬ what = 1 := gsw_n2 e11_5 (by decide)
        have n11_2 : ¬ what = 2 := gsw_n2 e11_5 (by decide)
        have n11_3 : ¬ what = 3 := gsw_n2 e11_5 (by decide)
        have n11_4 : ¬ what = 4 := gsw_n2 e11_5 (by decide)
        refine gx_aload_n (q := 0) C dX7_of_109 rfl ?_
        refine gx_iload_n (q := 1) C dX7_of_110 rfl ?_
        refine gx_bipush (v := 6) C dX7_of_111 (by decide) ?_
        refine gx_callR C (k_X7_pot l hW _ _ (i := (cl q)) n_q (by omega) (j := 6) (nLit 6) (by omega)) (isMS_in hW 0 (Nat.le_of_ble_eq_true rfl)) (isMS_0 hW) rfl (cwV 2 C.2.2.2.2.1 gX7_of_X7_pot rfl rfl rfl kdV_X7_pot ⟨Nat.le_of_ble_eq_true rfl, Nat.le_of_ble_eq_true rfl⟩) rfl rfl (Nat.le_of_ble_eq_true rfl) ⟨Nat.le_of_ble_eq_true rfl, Nat.le_of_ble_eq_true rfl⟩ dX7_of_113 ?_
        exact gx_iretR C rfl hr dX7_of_116 (congrArg Value.int ((if_pos h_5).trans ((if_neg n11_0).trans ((if_neg n11_1).trans ((if_neg n11_2).trans ((if_neg n11_3).trans ((if_neg n11_4).trans ((if_pos e11_5).trans (rfl)))))))).symm)
      · skip
        refine gx_tableIn (off := 106) (tgt := 117) C dX7_of_11 (by rw [sw_11]; decide) (by rw [sw_11]; decide) (by rw [sw_11]; rfl) (by decide) ?_
        have e11_6 : what = 6 := gsw_eq sw_11 (by decide)
        have n11_0 : ¬ what = 0 := gsw_n2 e11_6 (by decide)
        have n11_1 : ¬ what = 1 := gsw_n2 e11_6 (by decide)
        have n11_2 : ¬ what = 2 := gsw_n2 e11_6 (by decide)
        have n11_3 : ¬ what = 3 := gsw_n2 e11_6 (by decide)
        have n11_4 : ¬ what = 4 := gsw_n2 e11_6 (by decide)
        have n11_5 : ¬ what = 5 := gsw_n2 e11_6 (by decide)
        refine gx_aload_n (q := 0) C dX7_of_117 rfl ?_
        refine gx_iload_n (q := 1) C dX7_of_118 rfl ?_
        refine gx_bipush (v := 8) C dX7_of_119 (by decide) ?_
        refine gx_callR C (k_X7_pot l hW _ _ (i := (cl q)) n_q (by omega) (j := 8) (nLit 8) (by omega)) (isMS_in hW 0 (Nat.le_of_ble_eq_true rfl)) (isMS_0 hW) rfl (cwV 2 C.2.2.2.2.1 gX7_of_X7_pot rfl rfl rfl kdV_X7_pot ⟨Nat.le_of_ble_eq_true rfl, Nat.le_of_ble_eq_true rfl⟩) rfl rfl (Nat.le_of_ble_eq_true rfl) ⟨Nat.le_of_ble_eq_true rfl, Nat.le_of_ble_eq_true rfl⟩ dX7_of_121 ?_
        refine gx_if_le (tgt := 136) C dX7_of_124 (by decide) (fun c_124 => ?_) (fun c_124 => ?_)
        · skip
          refine gx_bipush (v := (-6)) C dX7_of_136 (by decide) ?_
          exact gx_iretR C rfl hr dX7_of_138 (congrArg Value.int ((if_pos h_5).trans ((if_neg n11_0).trans ((if_neg n11_1).trans ((if_neg n11_2).trans ((if_neg n11_3).trans ((if_neg n11_4).trans ((if_neg n11_5).trans ((if_pos e11_6).trans ((if_pos c_124).trans (rfl)))))))))).symm)
        · skip
          refine gx_aload_n (q := 0) C dX7_of_127 rfl ?_
          refine gx_iload_n (q := 1) C dX7_of_128 rfl ?_
          refine gx_iconst (v := 2) C dX7_of_129 (by decide) ?_
          refine gx_callR C (k_X7_pot l hW _ _ (i := (cl q)) n_q (by omega) (j := 2) (nLit 2) (by omega)) (isMS_in hW 0 (Nat.le_of_ble_eq_true rfl)) (isMS_0 hW) rfl (cwV 2 C.2.2.2.2.1 gX7_of_X7_pot rfl rfl rfl kdV_X7_pot ⟨Nat.le_of_ble_eq_true rfl, Nat.le_of_ble_eq_true rfl⟩) rfl rfl (Nat.le_of_ble_eq_true rfl) ⟨Nat.le_of_ble_eq_true rfl, Nat.le_of_ble_eq_true rfl⟩ dX7_of_130 ?_
          refine gx_goto (tgt := 138) C dX7_of_133 (by decide) ?_
          exact gx_iretR C rfl hr dX7_of_138 (congrArg Value.int ((if_pos h_5).trans ((if_neg n11_0).trans ((if_neg n11_1).trans ((if_neg n11_2).trans ((if_neg n11_3).trans ((if_neg n11_4).trans ((if_neg n11_5).trans ((if_pos e11_6).trans ((if_neg c_124).trans (rfl)))))))))).symm)
      · skip
        refine gx_tableIn (off := 128) (tgt := 139) C dX7_of_11 (by rw [sw_11]; decide) (by rw [sw_11]; decide) (by rw [sw_11]; rfl) (by decide) ?_
        have e11_7 : what = 7 := gsw_eq sw_11 (by decide)
        have n11_0 : ¬ what = 0 := gsw_n2 e11_7 (by decide)
        have n11_1 : ¬ what = 1 := gsw_n2 e11_7 (by decide)
        have n11_2 : ¬ what = 2 := gsw_n2 e11_7 (by decide)
        have n11_3 : ¬ what = 3 := gsw_n2 e11_7 (by decide)
        have n11_4 : ¬ what = 4 := gsw_n2 e11_7 (by decide)
        have n11_5 : ¬ what = 5 := gsw_n2 e11_7 (by decide)
        have n11_6 : ¬ what = 6 := gsw_n2 e11_7 (by decide)
        refine gx_aload_n (q := 0) C dX7_of_139 rfl ?_
        refine gx_iload_n (q := 1) C dX7_of_140 rfl ?_
        refine gx_bipush (v := 7) C dX7_of_141 (by decide) ?_
        refine gx_callR C (k_X7_pot l hW _ _ (i := (cl q)) n_q (by omega) (j := 7) (nLit 7) (by omega)) (isMS_in hW 0 (Nat.le_of_ble_eq_true rfl)) (isMS_0 hW) rfl (cwV 2 C.2.2.2.2.1 gX7_of_X7_pot rfl rfl rfl kdV_X7_pot ⟨Nat.le_of_ble_eq_true rfl, Nat.le_of_ble_eq_true rfl⟩) rfl rfl (Nat.le_of_ble_eq_true rfl) ⟨Nat.le_of_ble_eq_true rfl, Nat.le_of_ble_eq_true rfl⟩ dX7_of_143 ?_
        exact gx_iretR C rfl hr dX7_of_146 (congrArg Value.int ((if_pos h_5).trans ((if_neg n11_0).trans ((if_neg n11_1).trans ((if_neg n11_2).trans ((if_neg n11_3).trans ((if_neg n11_4).trans ((if_neg n11_5).trans ((if_neg n11_6).trans ((if_pos e11_7).trans (rfl)))))))))).symm)
      · skip
        refine gx_tableIn (off := 136) (tgt := 147) C dX7_of_11 (by rw [sw_11]; decide) (by rw [sw_11]; decide) (by rw [sw_11]; rfl) (by decide) ?_
        have e11_8 : what = 8 := gsw_eq sw_11 (by decide)
        have n11_0 : ¬ what = 0 := gsw_n2 e11_8 (by decide)
        have n11_1 : ¬ what = 1 := gsw_n2 e11_8 (by decide)
        have n11_2 : ¬ what = 2 := gsw_n2 e11_8 (by decide)
        have n11_3 : ¬ what = 3 := gsw_n2 e11_8 (by decide)
        have n11_4 : ¬ what = 4 := gsw_n2 e11_8 (by decide)
        have n11_5 : ¬ what = 5 := gsw_n2 e11_8 (by decide)
        have n11_6 : ¬ what = 6 := gsw_n2 e11_8 (by decide)
        have n11_7 : ¬ what = 7 := gsw_n2 e11_8 (by decide)
        refine gx_aload_n (q := 0) C dX7_of_147 rfl ?_
        refine gx_iload_n (q := 1) C dX7_of_148 rfl ?_
        refine gx_bipush (v := 8) C dX7_of_149 (by decide) ?_
        refine gx_callR C (k_X7_pot l hW _ _ (i := (cl q)) n_q (by omega) (j := 8) (nLit 8) (by omega)) (isMS_in hW 0 (Nat.le_of_ble_eq_true rfl)) (isMS_0 hW) rfl (cwV 2 C.2.2.2.2.1 gX7_of_X7_pot rfl rfl rfl kdV_X7_pot ⟨Nat.le_of_ble_eq_true rfl, Nat.le_of_ble_eq_true rfl⟩) rfl rfl (Nat.le_of_ble_eq_true rfl) ⟨Nat.le_of_ble_eq_true rfl, Nat.le_of_ble_eq_true rfl⟩ dX7_of_151 ?_
        exact gx_iretR C rfl hr dX7_of_154 (congrArg Value.int ((if_pos h_5).trans ((if_neg n11_0).trans ((if_neg n11_1).trans ((if_neg n11_2).trans ((if_neg n11_3).trans ((if_neg n11_4).trans ((if_neg n11_5).trans ((if_neg n11_6).trans ((if_neg n11_7).trans ((if_pos e11_8).trans (rfl))))))))))).symm)
  · skip
    have h_5 := bI0.mp c_5
    refine gx_iconst (v := (-1)) C dX7_of_8 (by decide) ?_
    exact gx_iretR C rfl hr dX7_of_9 (congrArg Value.int ((if_neg (bF h_5)).trans (rfl)).symm)
theorem kdN_X7_potsOf : yX7_potsOf.cls ≠ "java/lang/invoke/MethodHandle" ∧ yX7_potsOf.cls ≠ "java/lang/invoke/VarHandle" ∧ (parseMethodDescriptor yX7_potsOf.desc).map (fun d => d.parameters.length) = some 2 := by decide +kernel
theorem kdV_X7_potsOf : yX7_potsOf.cls = RX7 ∧ yX7_potsOf.cls ≠ "java/lang/invoke/MethodHandle" ∧ yX7_potsOf.cls ≠ "java/lang/invoke/VarHandle" ∧ (parseMethodDescriptor yX7_potsOf.desc).map (fun d => d.parameters.length) = some 2 := ⟨rfl, kdN_X7_potsOf⟩
def zOfP (y : MS) (q kd : Int32) : Nat → Bool := fun i => decide (y.1 0 (35 + 9 * i) = q) && (decide (kd < 0) || decide (y.1 0 (35 + 9 * i + 3) = kd))
def zPotsOf (y : MS) (q kd : Int32) : Int32 := mk (zOfP y q kd) (mN y)
theorem in_X7_potsOf_7 : ∀ w ∈ u_ws RX7 TX7 13, w ∈ wsX7_potsOf := by decide +kernel
theorem fl_X7_potsOf_7 : Cond.fieldLink RX7 7 (TX7 0).1 (TX7 0).2.1 (TX7 0).2.2.1 ∈ wsX7_potsOf := by decide +kernel
abbrev rmX7_potsOf : Room := { frames := 1, cells := 0, slots := 0, locals := 22 }
set_option maxHeartbeats 4000000 in
set_option maxRecDepth 100000 in
theorem k_X7_potsOf (l : Launch) {k : gK} {L : List Nat} {f : Nat → va_E} {o : Nat → Nat} {y : MS} (hW : isMS k L f o y) (hM : mOK y) (q : Int32) (kd : Int32) : kR l k L f yX7_potsOf wsX7_potsOf rmX7_potsOf [.ref (o 0), .int q, .int kd] (.int (zPotsOf y q kd)) := by
  refine kR_of (cc := cX7_potsOf) (maxL := 5) (ret := (some .int)) (by decide) rfl (Nat.le_of_ble_eq_true rfl) ?_
  intro p e s m args below meth c C hr
  refine gx_lv [(0, _), (1, _), (2, _)] [0, 1, 2] rfl ?_
  refine gx_iconst (v := 0) C dX7_potsOf_0 (by decide) ?_
  refine gx_istore_n C (i := 3) [(3, _), (0, _), (1, _), (2, _)] dX7_potsOf_1 rfl (by decide) rfl ?_
  refine gx_iconst (v := 0) C dX7_potsOf_2 (by decide) ?_
  refine gx_istore C [(4, _), (3, _), (0, _), (1, _), (2, _)] dX7_potsOf_3 (by decide) rfl ?_
  refine gx_loop (σ := Nat) (fun i => f) (fun i => [(0, .ref (o 0)), (1, .int q), (2, .int kd), (3, .int (mk (zOfP y q kd) i)), (4, .int (nI i))]) (fun i => i ≤ mN y) (fun i => mN y - i) 0 [2, 3, 4, 1, 0] rfl rfl ?_ ?_
  · exact Nat.zero_le _
  intro i hI ih
  try dsimp only at hI ih ⊢
  have h20 := hM.2
  refine gx_iload (q := 4) C dX7_potsOf_5 rfl ?_
  refine gx_aload_n (q := 0) C dX7_potsOf_7 rfl ?_
  refine gx_get C (i := 0) (isMS_in hW 0 (Nat.le_of_ble_eq_true rfl)) (isMS_0 hW) rfl in_X7_potsOf_7 (by decide) fl_X7_potsOf_7 rfl dX7_potsOf_8 ?_
  refine gx_bipush (v := 7) C dX7_potsOf_11 (by decide) ?_
  refine gx_ialdN C (isMS_in hW 1 (Nat.le_of_ble_eq_true rfl)) (isMS_a0 hW) (nLit 7) (by omega) (by decide) dX7_potsOf_13 ?_
  refine gx_top (nI (mN y)) hM.1 ?_
  refine gx_icmp_ge (tgt := 60) C dX7_potsOf_14 (by decide) (fun c_14 => ?_) (fun c_14 => ?_)
  · skip
    have hb := (nI_leI (by omega) (by omega)).mp c_14
    refine gx_iload_n (q := 3) C dX7_potsOf_60 rfl ?_
    exact gx_iretR C rfl hr dX7_potsOf_61 (congrArg Value.int (by rw [show i = mN y by omega]; rfl))
  · skip
    have hlt : i < mN y := Nat.lt_of_not_le (fun z => c_14 ((nI_leI (by omega) (by omega)).mpr z))
    refine gx_iload_n (q := 3) C dX7_potsOf_17 rfl ?_
    refine gx_aload_n (q := 0) C dX7_potsOf_18 rfl ?_
    refine gx_iload (q := 4) C dX7_potsOf_19 rfl ?_
    refine gx_iconst (v := 0) C dX7_potsOf_21 (by decide) ?_
    refine gx_callR C (k_X7_pot l hW _ _ (i := i) rfl (by omega) (j := 0) (nLit 0) (by omega)) (isMS_in hW 0 (Nat.le_of_ble_eq_true rfl)) (isMS_0 hW) rfl (cwV 2 C.2.2.2.2.1 gX7_potsOf_X7_pot rfl rfl rfl kdV_X7_pot ⟨Nat.le_of_ble_eq_true rfl, Nat.le_of_ble_eq_true rfl⟩) rfl rfl (Nat.le_of_ble_eq_true rfl) ⟨Nat.le_of_ble_eq_true rfl, Nat.le_of_ble_eq_true rfl⟩ dX7_potsOf_22 ?_
    refine gx_iload_n (q := 1) C dX7_potsOf_25 rfl ?_
    refine gx_icmp_ne (tgt := 51) C dX7_potsOf_26 (by decide) (fun c_26 => ?_) (fun c_26 => ?_)
    · skip
      refine gx_iconst (v := 0) C dX7_potsOf_51 (by decide) ?_
      refine gx_ior C dX7_potsOf_52 ?_
      refine gx_istore_n C (i := 3) [(3, _), (0, _), (1, _), (2, _), (4, _)] dX7_potsOf_53 rfl (by decide) rfl ?_
      refine gx_iinc C (q := 4) (v := nI (i + 1)) [(4, _), (3, _), (0, _), (1, _), (2, _)] dX7_potsOf_54 rfl (nI_inc i) (by decide) rfl ?_
      refine gx_goto (tgt := 5) C dX7_potsOf_57 (by decide) ?_
      rw [show 35 + 9 * i + 0 = 35 + 9 * i from rfl] at c_26
      exact gx_back [2, 3, 4, 1, 0] (ih (i + 1) (by omega) (by omega)) rfl (by rw [mk_f (P := zOfP y q kd) (by simp [zOfP, c_26]), or0]; rfl)
    · skip
      refine gx_iload_n (q := 2) C dX7_potsOf_29 rfl ?_
      refine gx_if_lt (tgt := 44) C dX7_potsOf_30 (by decide) (fun c_30 => ?_) (fun c_30 => ?_)
      · skip
        refine gx_iconst (v := 1) C dX7_potsOf_44 (by decide) ?_
        refine gx_iload (q := 4) C dX7_potsOf_45 rfl ?_
        refine gx_ishl C dX7_potsOf_47 ?_
        refine gx_goto (tgt := 52) C dX7_potsOf_48 (by decide) ?_
        refine gx_ior C dX7_potsOf_52 ?_
        refine gx_istore_n C (i := 3) [(3, _), (0, _), (1, _), (2, _), (4, _)] dX7_potsOf_53 rfl (by decide) rfl ?_
        refine gx_iinc C (q := 4) (v := nI (i + 1)) [(4, _), (3, _), (0, _), (1, _), (2, _)] dX7_potsOf_54 rfl (nI_inc i) (by decide) rfl ?_
        refine gx_goto (tgt := 5) C dX7_potsOf_57 (by decide) ?_
        rw [show 35 + 9 * i + 0 = 35 + 9 * i from rfl] at c_26
        exact gx_back [2, 3, 4, 1, 0] (ih (i + 1) (by omega) (by omega)) rfl (by rw [mk_t (P := zOfP y q kd) (by simp [zOfP, c_26, c_30])]; rfl)
      · skip
        refine gx_aload_n (q := 0) C dX7_potsOf_33 rfl ?_
        refine gx_iload (q := 4) C dX7_potsOf_34 rfl ?_
        refine gx_iconst (v := 3) C dX7_potsOf_36 (by decide) ?_
        refine gx_callR C (k_X7_pot l hW _ _ (i := i) rfl (by omega) (j := 3) (nLit 3) (by omega)) (isMS_in hW 0 (Nat.le_of_ble_eq_true rfl)) (isMS_0 hW) rfl (cwV 2 C.2.2.2.2.1 gX7_potsOf_X7_pot rfl rfl rfl kdV_X7_pot ⟨Nat.le_of_ble_eq_true rfl, Nat.le_of_ble_eq_true rfl⟩) rfl rfl (Nat.le_of_ble_eq_true rfl) ⟨Nat.le_of_ble_eq_true rfl, Nat.le_of_ble_eq_true rfl⟩ dX7_potsOf_37 ?_
        refine gx_iload_n (q := 2) C dX7_potsOf_40 rfl ?_
        refine gx_icmp_ne (tgt := 51) C dX7_potsOf_41 (by decide) (fun c_41 => ?_) (fun c_41 => ?_)
        · skip
          refine gx_iconst (v := 0) C dX7_potsOf_51 (by decide) ?_
          refine gx_ior C dX7_potsOf_52 ?_
          refine gx_istore_n C (i := 3) [(3, _), (0, _), (1, _), (2, _), (4, _)] dX7_potsOf_53 rfl (by decide) rfl ?_
          refine gx_iinc C (q := 4) (v := nI (i + 1)) [(4, _), (3, _), (0, _), (1, _), (2, _)] dX7_potsOf_54 rfl (nI_inc i) (by decide) rfl ?_
          refine gx_goto (tgt := 5) C dX7_potsOf_57 (by decide) ?_
          rw [show 35 + 9 * i + 0 = 35 + 9 * i from rfl] at c_26
          exact gx_back [2, 3, 4, 1, 0] (ih (i + 1) (by omega) (by omega)) rfl (by rw [mk_f (P := zOfP y q kd) (by simp [zOfP, c_26, c_30, c_41]), or0]; rfl)
        · skip
          refine gx_iconst (v := 1) C dX7_potsOf_44 (by decide) ?_
          refine gx_iload (q := 4) C dX7_potsOf_45 rfl ?_
          refine gx_ishl C dX7_potsOf_47 ?_
          refine gx_goto (tgt := 52) C dX7_potsOf_48 (by decide) ?_
          refine gx_ior C dX7_potsOf_52 ?_
          refine gx_istore_n C (i := 3) [(3, _), (0, _), (1, _), (2, _), (4, _)] dX7_potsOf_53 rfl (by decide) rfl ?_
          refine gx_iinc C (q := 4) (v := nI (i + 1)) [(4, _), (3, _), (0, _), (1, _), (2, _)] dX7_potsOf_54 rfl (nI_inc i) (by decide) rfl ?_
          refine gx_goto (tgt := 5) C dX7_potsOf_57 (by decide) ?_
          rw [show 35 + 9 * i + 0 = 35 + 9 * i from rfl] at c_26
          exact gx_back [2, 3, 4, 1, 0] (ih (i + 1) (by omega) (by omega)) rfl (by rw [mk_t (P := zOfP y q kd) (by simp [zOfP, c_26, c_30, c_41])]; rfl)
theorem kdN_X7_bookings : yX7_bookings.cls ≠ "java/lang/invoke/MethodHandle" ∧ yX7_bookings.cls ≠ "java/lang/invoke/VarHandle" ∧ (parseMethodDescriptor yX7_bookings.desc).map (fun d => d.parameters.length) = some 1 := by decide +kernel
theorem kdV_X7_bookings : yX7_bookings.cls = RX7 ∧ yX7_bookings.cls ≠ "java/lang/invoke/MethodHandle" ∧ yX7_bookings.cls ≠ "java/lang/invoke/VarHandle" ∧ (parseMethodDescriptor yX7_bookings.desc).map (fun d => d.parameters.length) = some 1 := ⟨rfl, kdN_X7_bookings⟩
def zBkP (g : Nat → Int32) (q : Int32) : Nat → Bool := fun i => decide (g (215 + i) = q)
theorem in_X7_bookings_7 : ∀ w ∈ u_ws RX7 TX7 13, w ∈ wsX7_bookings := by decide +kernel
theorem fl_X7_bookings_7 : Cond.fieldLink RX7 7 (TX7 0).1 (TX7 0).2.1 (TX7 0).2.2.1 ∈ wsX7_bookings := by decide +kernel
abbrev rmX7_bookings : Room := { frames := 0, cells := 0, slots := 0, locals := 0 }
set_option maxHeartbeats 4000000 in
set_option maxRecDepth 100000 in
theorem k_X7_bookings (l : Launch) {k : gK} {L : List Nat} {f : Nat → va_E} {o : Nat → Nat} {y : MS} (hW : isMS k L f o y) (q : Int32) : kR l k L f yX7_bookings wsX7_bookings rmX7_bookings [.ref (o 0), .int q] (.int (cnI (zBkP (y.1 0) q) 105)) := by
  refine kR_of (cc := cX7_bookings) (maxL := 4) (ret := (some .int)) (by decide) rfl (Nat.le_of_ble_eq_true rfl) ?_
  intro p e s m args below meth c C hr
  refine gx_lv [(0, _), (1, _)] [0, 1] rfl ?_
  refine gx_iconst (v := 0) C dX7_bookings_0 (by decide) ?_
  refine gx_istore_n C (i := 2) [(2, _), (0, _), (1, _)] dX7_bookings_1 rfl (by decide) rfl ?_
  refine gx_iconst (v := 0) C dX7_bookings_2 (by decide) ?_
  refine gx_istore_n C (i := 3) [(3, _), (2, _), (0, _), (1, _)] dX7_bookings_3 rfl (by decide) rfl ?_
  refine gx_loop (σ := Nat) (fun i => f) (fun i => [(0, .ref (o 0)), (1, .int q), (2, .int (cnI (zBkP (y.1 0) q) i)), (3, .int (nI i))]) (fun i => i ≤ 105) (fun i => 105 - i) 0 [2, 3, 1, 0] rfl rfl ?_ ?_
  · exact Nat.zero_le _
  intro i hI ih
  try dsimp only at hI ih ⊢
  refine gx_iload_n (q := 3) C dX7_bookings_4 rfl ?_
  refine gx_bipush (v := 105) C dX7_bookings_5 (by decide) ?_
  refine gx_icmp_ge (tgt := 38) C dX7_bookings_7 (by decide) (fun c_7 => ?_) (fun c_7 => ?_)
  · skip
    have hb := (nI_leI (a := 105) (b := i) (by decide) (by omega)).mp c_7
    refine gx_iload_n (q := 2) C dX7_bookings_38 rfl ?_
    exact gx_iretR C rfl hr dX7_bookings_39 (congrArg Value.int (by rw [show i = 105 by omega]))
  · skip
    have hlt : i < 105 := Nat.lt_of_not_le (fun z => c_7 ((nI_leI (a := 105) (b := i) (by decide) (by omega)).mpr z))
    refine gx_iload_n (q := 2) C dX7_bookings_10 rfl ?_
    refine gx_aload_n (q := 0) C dX7_bookings_11 rfl ?_
    refine gx_get C (i := 0) (isMS_in hW 0 (Nat.le_of_ble_eq_true rfl)) (isMS_0 hW) rfl in_X7_bookings_7 (by decide) fl_X7_bookings_7 rfl dX7_bookings_12 ?_
    refine gx_sipush (v := 215) C dX7_bookings_15 (by decide) ?_
    refine gx_iload_n (q := 3) C dX7_bookings_18 rfl ?_
    refine gx_iadd C dX7_bookings_19 ?_
    refine gx_ialdN C (isMS_in hW 1 (Nat.le_of_ble_eq_true rfl)) (isMS_a0 hW) (nAdd (nLit 215) rfl) (by omega) (by decide) dX7_bookings_20 ?_
    refine gx_iload_n (q := 1) C dX7_bookings_21 rfl ?_
    refine gx_icmp_ne (tgt := 29) C dX7_bookings_22 (by decide) (fun c_22 => ?_) (fun c_22 => ?_)
    · skip
      refine gx_iconst (v := 0) C dX7_bookings_29 (by decide) ?_
      refine gx_iadd C dX7_bookings_30 ?_
      refine gx_istore_n C (i := 2) [(2, _), (0, _), (1, _), (3, _)] dX7_bookings_31 rfl (by decide) rfl ?_
      refine gx_iinc C (q := 3) (v := nI (i + 1)) [(3, _), (2, _), (0, _), (1, _)] dX7_bookings_32 rfl (nI_inc i) (by decide) rfl ?_
      refine gx_goto (tgt := 4) C dX7_bookings_35 (by decide) ?_
      exact gx_back [2, 3, 1, 0] (ih (i + 1) (by omega) (by omega)) rfl (by rw [cnI_f (P := zBkP (y.1 0) q) (decide_eq_false c_22), add0]; rfl)
    · skip
      refine gx_iconst (v := 1) C dX7_bookings_25 (by decide) ?_
      refine gx_goto (tgt := 30) C dX7_bookings_26 (by decide) ?_
      refine gx_iadd C dX7_bookings_30 ?_
      refine gx_istore_n C (i := 2) [(2, _), (0, _), (1, _), (3, _)] dX7_bookings_31 rfl (by decide) rfl ?_
      refine gx_iinc C (q := 3) (v := nI (i + 1)) [(3, _), (2, _), (0, _), (1, _)] dX7_bookings_32 rfl (nI_inc i) (by decide) rfl ?_
      refine gx_goto (tgt := 4) C dX7_bookings_35 (by decide) ?_
      exact gx_back [2, 3, 1, 0] (ih (i + 1) (by omega) (by omega)) rfl (by rw [cnI_t (P := zBkP (y.1 0) q) (decide_eq_true c_22)]; rfl)
theorem kdN_X7_ofPupil : yX7_ofPupil.cls ≠ "java/lang/invoke/MethodHandle" ∧ yX7_ofPupil.cls ≠ "java/lang/invoke/VarHandle" ∧ (parseMethodDescriptor yX7_ofPupil.desc).map (fun d => d.parameters.length) = some 2 := by decide +kernel
theorem kdV_X7_ofPupil : yX7_ofPupil.cls = RX7 ∧ yX7_ofPupil.cls ≠ "java/lang/invoke/MethodHandle" ∧ yX7_ofPupil.cls ≠ "java/lang/invoke/VarHandle" ∧ (parseMethodDescriptor yX7_ofPupil.desc).map (fun d => d.parameters.length) = some 2 := ⟨rfl, kdN_X7_ofPupil⟩
def vX7_ofPupil (y : MS) (q : Int32) (what : Int32) : Int32 := (if (vX7_isPupil y q) = true then (if what = 0 then (zWh (y.1 0) q 0 5) else (if what = 1 then (zPotsOf y q (-6)) else (if what = 2 then (zPotsOf y q 3) else (if what = 3 then (zPotsOf y q 4) else (if what = 4 then (y.1 0 (15 + (cl q))) else (if what = 5 then (cnI (zBkP (y.1 0) q) 105) else (-2))))))) else (-1))
theorem in_X7_ofPupil_7 : ∀ w ∈ u_ws RX7 TX7 13, w ∈ wsX7_ofPupil := by decide +kernel
theorem fl_X7_ofPupil_7 : Cond.fieldLink RX7 7 (TX7 0).1 (TX7 0).2.1 (TX7 0).2.2.1 ∈ wsX7_ofPupil := by decide +kernel
abbrev rmX7_ofPupil : Room := { frames := 2, cells := 0, slots := 0, locals := 46 }
set_option maxHeartbeats 4000000 in
set_option maxRecDepth 100000 in
theorem k_X7_ofPupil (l : Launch) {k : gK} {L : List Nat} {f : Nat → va_E} {o : Nat → Nat} {y : MS} (hW : isMS k L f o y) (hM : mOK y) (hQ : mQK y) (q : Int32) (what : Int32) : kR l k L f yX7_ofPupil wsX7_ofPupil rmX7_ofPupil [.ref (o 0), .int q, .int what] (.int (vX7_ofPupil y q what)) := by
  refine kR_of (cc := cX7_ofPupil) (maxL := 3) (ret := (some .int)) (by decide) rfl (Nat.le_of_ble_eq_true rfl) ?_
  intro p e s m args below meth c C hr
  refine gx_lv [(0, _), (1, _), (2, _)] [0, 1, 2] rfl ?_
  refine gx_aload_n (q := 0) C dX7_ofPupil_0 rfl ?_
  refine gx_iload_n (q := 1) C dX7_ofPupil_1 rfl ?_
  refine gx_callR C (k_X7_isPupil l hW _) (isMS_in hW 0 (Nat.le_of_ble_eq_true rfl)) (isMS_0 hW) rfl (cwV 1 C.2.2.2.2.1 gX7_ofPupil_X7_isPupil rfl rfl rfl kdV_X7_isPupil ⟨Nat.le_of_ble_eq_true rfl, Nat.le_of_ble_eq_true rfl⟩) rfl rfl (Nat.le_of_ble_eq_true rfl) ⟨Nat.le_of_ble_eq_true rfl, Nat.le_of_ble_eq_true rfl⟩ dX7_ofPupil_2 ?_
  refine gx_if_ne (tgt := 10) C dX7_ofPupil_5 (by decide) (fun c_5 => ?_) (fun c_5 => ?_)
  · skip
    have h_5 := bI1.mp c_5
    obtain ⟨n_q, b_q⟩ := mPupil hQ h_5
    have bb_q := (hQ).2
    refine gx_iload_n (q := 2) C dX7_ofPupil_10 rfl ?_
    refine gsw_split 0 5 what ?_ ?_
    · intro sw_11
      refine gx_tableOut (tgt := 93) C dX7_ofPupil_11 sw_11 (by decide) ?_
      have n11_0 : ¬ what = 0 := gsw_ne sw_11 (by decide)
      have n11_1 : ¬ what = 1 := gsw_ne sw_11 (by decide)
      have n11_2 : ¬ what = 2 := gsw_ne sw_11 (by decide)
      have n11_3 : ¬ what = 3 := gsw_ne sw_11 (by decide)
      have n11_4 : ¬ what = 4 := gsw_ne sw_11 (by decide)
      have n11_5 : ¬ what = 5 := gsw_ne sw_11 (by decide)
      refine gx_bipush (v := (-2)) C dX7_ofPupil_93 (by decide) ?_
      exact gx_iretR C rfl hr dX7_ofPupil_95 (congrArg Value.int ((if_pos h_5).trans ((if_neg n11_0).trans ((if_neg n11_1).trans ((if_neg n11_2).trans ((if_neg n11_3).trans ((if_neg n11_4).trans ((if_neg n11_5).trans (rfl)))))))).symm)
    · intro j hj1 hj2 sw_11
      obtain rfl | rfl | rfl | rfl | rfl | rfl : j = 0 ∨ j = 1 ∨ j = 2 ∨ j = 3 ∨ j = 4 ∨ j = 5 := by omega
      · skip
        refine gx_tableIn (off := 37) (tgt := 48) C dX7_ofPupil_11 (by rw [sw_11]; decide) (by rw [sw_11]; decide) (by rw [sw_11]; rfl) (by decide) ?_
        have e11_0 : what = 0 := gsw_eq sw_11 (by decide)
        refine gx_aload_n (q := 0) C dX7_ofPupil_48 rfl ?_
        refine gx_iload_n (q := 1) C dX7_ofPupil_49 rfl ?_
        refine gx_iconst (v := 0) C dX7_ofPupil_50 (by decide) ?_
        refine gx_callR C (k_X7_wheelOf l hW _ _ (j := 0) (nLit 0) (by omega)) (isMS_in hW 0 (Nat.le_of_ble_eq_true rfl)) (isMS_0 hW) rfl (cwV 2 C.2.2.2.2.1 gX7_ofPupil_X7_wheelOf rfl rfl rfl kdV_X7_wheelOf ⟨Nat.le_of_ble_eq_true rfl, Nat.le_of_ble_eq_true rfl⟩) rfl rfl (Nat.le_of_ble_eq_true rfl) ⟨Nat.le_of_ble_eq_true rfl, Nat.le_of_ble_eq_true rfl⟩ dX7_ofPupil_51 ?_
        exact gx_iretR C rfl hr dX7_ofPupil_54 (congrArg Value.int ((if_pos h_5).trans ((if_pos e11_0).trans (rfl))).symm)
      · skip
        refine gx_tableIn (off := 44) (tgt := 55) C dX7_ofPupil_11 (by rw [sw_11]; decide) (by rw [sw_11]; decide) (by rw [sw_11]; rfl) (by decide) ?_
        have e11_1 : what = 1 := gsw_eq sw_11 (by decide)
        have n11_0 : ¬ what = 0 := gsw_n2 e11_1 (by decide)
        refine gx_aload_n (q := 0) C dX7_ofPupil_55 rfl ?_
        refine gx_iload_n (q := 1) C dX7_ofPupil_56 rfl ?_
        refine gx_bipush (v := (-6)) C dX7_ofPupil_57 (by decide) ?_
        refine gx_callR C (k_X7_potsOf l hW hM _ _) (isMS_in hW 0 (Nat.le_of_ble_eq_true rfl)) (isMS_0 hW) rfl (cwV 2 C.2.2.2.2.1 gX7_ofPupil_X7_potsOf rfl rfl rfl kdV_X7_potsOf ⟨Nat.le_of_ble_eq_true rfl, Nat.le_of_ble_eq_true rfl⟩) rfl rfl (Nat.le_of_ble_eq_true rfl) ⟨Nat.le_of_ble_eq_true rfl, Nat.le_of_ble_eq_true rfl⟩ dX7_ofPupil_59 ?_
        exact gx_iretR C rfl hr dX7_ofPupil_62 (congrArg Value.int ((if_pos h_5).trans ((if_neg n11_0).trans ((if_pos e11_1).trans (rfl)))).symm)
      · skip
        refine gx_tableIn (off := 52) (tgt := 63) C dX7_ofPupil_11 (by rw [sw_11]; decide) (by rw [sw_11]; decide) (by rw [sw_11]; rfl) (by decide) ?_
        have e11_2 : what = 2 := gsw_eq sw_11 (by decide)
        have n11_0 : ¬ what = 0 := gsw_n2 e11_2 (by decide)
        have n11_1 : ¬ what = 1 := gsw_n2 e11_2 (by decide)
        refine gx_aload_n (q := 0) C dX7_ofPupil_63 rfl ?_
        refine gx_iload_n (q := 1) C dX7_ofPupil_64 rfl ?_
        refine gx_iconst (v := 3) C dX7_ofPupil_65 (by decide) ?_
        refine gx_callR C (k_X7_potsOf l hW hM _ _) (isMS_in hW 0 (Nat.le_of_ble_eq_true rfl)) (isMS_0 hW) rfl (cwV 2 C.2.2.2.2.1 gX7_ofPupil_X7_potsOf rfl rfl rfl kdV_X7_potsOf ⟨Nat.le_of_ble_eq_true rfl, Nat.le_of_ble_eq_true rfl⟩) rfl rfl (Nat.le_of_ble_eq_true rfl) ⟨Nat.le_of_ble_eq_true rfl, Nat.le_of_ble_eq_true rfl⟩ dX7_ofPupil_66 ?_
        exact gx_iretR C rfl hr dX7_ofPupil_69 (congrArg Value.int ((if_pos h_5).trans ((if_neg n11_0).trans ((if_neg n11_1).trans ((if_pos e11_2).trans (rfl))))).symm)
      · skip
        refine gx_tableIn (off := 59) (tgt := 70) C dX7_ofPupil_11 (by rw [sw_11]; decide) (by rw [sw_11]; decide) (by rw [sw_11]; rfl) (by decide) ?_
        have e11_3 : what = 3 := gsw_eq sw_11 (by decide)
        have n11_0 : ¬ what = 0 := gsw_n2 e11_3 (by decide)
        have n11_1 : ¬ what = 1 := gsw_n2 e11_3 (by decide)
        have n11_2 : ¬ what = 2 := gsw_n2 e11_3 (by decide)
        refine gx_aload_n (q := 0) C dX7_ofPupil_70 rfl ?_
        refine gx_iload_n (q := 1) C dX7_ofPupil_71 rfl ?_
        refine gx_iconst (v := 4) C dX7_ofPupil_72 (by decide) ?_
        refine gx_callR C (k_X7_potsOf l hW hM _ _) (isMS_in hW 0 (Nat.le_of_ble_eq_true rfl)) (isMS_0 hW) rfl (cwV 2 C.2.2.2.2.1 gX7_ofPupil_X7_potsOf rfl rfl rfl kdV_X7_potsOf ⟨Nat.le_of_ble_eq_true rfl, Nat.le_of_ble_eq_true rfl⟩) rfl rfl (Nat.le_of_ble_eq_true rfl) ⟨Nat.le_of_ble_eq_true rfl, Nat.le_of_ble_eq_true rfl⟩ dX7_ofPupil_73 ?_
        exact gx_iretR C rfl hr dX7_ofPupil_76 (congrArg Value.int ((if_pos h_5).trans ((if_neg n11_0).trans ((if_neg n11_1).trans ((if_neg n11_2).trans ((if_pos e11_3).trans (rfl)))))).symm)
      · skip
        refine gx_tableIn (off := 66) (tgt := 77) C dX7_ofPupil_11 (by rw [sw_11]; decide) (by rw [sw_11]; decide) (by rw [sw_11]; rfl) (by decide) ?_
        have e11_4 : what = 4 := gsw_eq sw_11 (by decide)
        have n11_0 : ¬ what = 0 := gsw_n2 e11_4 (by decide)
        have n11_1 : ¬ what = 1 := gsw_n2 e11_4 (by decide)
        have n11_2 : ¬ what = 2 := gsw_n2 e11_4 (by decide)
        have n11_3 : ¬ what = 3 := gsw_n2 e11_4 (by decide)
        refine gx_aload_n (q := 0) C dX7_ofPupil_77 rfl ?_
        refine gx_get C (i := 0) (isMS_in hW 0 (Nat.le_of_ble_eq_true rfl)) (isMS_0 hW) rfl in_X7_ofPupil_7 (by decide) fl_X7_ofPupil_7 rfl dX7_ofPupil_78 ?_
        refine gx_bipush (v := 15) C dX7_ofPupil_81 (by decide) ?_
        refine gx_iload_n (q := 1) C dX7_ofPupil_83 rfl ?_
        refine gx_iadd C dX7_ofPupil_84 ?_
        refine gx_ialdN C (isMS_in hW 1 (Nat.le_of_ble_eq_true rfl)) (isMS_a0 hW) (nAdd (nLit 15) n_q) (by omega) (by decide) dX7_ofPupil_85 ?_
        exact gx_iretR C rfl hr dX7_ofPupil_86 (congrArg Value.int ((if_pos h_5).trans ((if_neg n11_0).trans ((if_neg n11_1).trans ((if_neg n11_2).trans ((if_neg n11_3).trans ((if_pos e11_4).trans (rfl))))))).symm)
      · skip
        refine gx_tableIn (off := 76) (tgt := 87) C dX7_ofPupil_11 (by rw [sw_11]; decide) (by rw [sw_11]; decide) (by rw [sw_11]; rfl) (by decide) ?_
        have e11_5 : what = 5 := gsw_eq sw_11 (by decide)
        have n11_0 : ¬ what = 0 := gsw_n2 e11_5 (by decide)
        have n11_1 : ¬ what = 1 := gsw_n2 e11_5 (by decide)
        have n11_2 : ¬ what = 2 := gsw_n2 e11_5 (by decide)
        have n11_3 : ¬ what = 3 := gsw_n2 e11_5 (by decide)
        have n11_4 : ¬ what = 4 := gsw_n2 e11_5 (by decide)
        refine gx_aload_n (q := 0) C dX7_ofPupil_87 rfl ?_
        refine gx_iload_n (q := 1) C dX7_ofPupil_88 rfl ?_
        refine gx_callR C (k_X7_bookings l hW _) (isMS_in hW 0 (Nat.le_of_ble_eq_true rfl)) (isMS_0 hW) rfl (cwV 1 C.2.2.2.2.1 gX7_ofPupil_X7_bookings rfl rfl rfl kdV_X7_bookings ⟨Nat.le_of_ble_eq_true rfl, Nat.le_of_ble_eq_true rfl⟩) rfl rfl (Nat.le_of_ble_eq_true rfl) ⟨Nat.le_of_ble_eq_true rfl, Nat.le_of_ble_eq_true rfl⟩ dX7_ofPupil_89 ?_
        exact gx_iretR C rfl hr dX7_ofPupil_92 (congrArg Value.int ((if_pos h_5).trans ((if_neg n11_0).trans ((if_neg n11_1).trans ((if_neg n11_2).trans ((if_neg n11_3).trans ((if_neg n11_4).trans ((if_pos e11_5).trans (rfl)))))))).symm)
  · skip
    have h_5 := bI0.mp c_5
    refine gx_iconst (v := (-1)) C dX7_ofPupil_8 (by decide) ?_
    exact gx_iretR C rfl hr dX7_ofPupil_9 (congrArg Value.int ((if_neg (bF h_5)).trans (rfl)).symm)
theorem kdN_X7_booked : yX7_booked.cls ≠ "java/lang/invoke/MethodHandle" ∧ yX7_booked.cls ≠ "java/lang/invoke/VarHandle" ∧ (parseMethodDescriptor yX7_booked.desc).map (fun d => d.parameters.length) = some 2 := by decide +kernel
theorem kdV_X7_booked : yX7_booked.cls = RX7 ∧ yX7_booked.cls ≠ "java/lang/invoke/MethodHandle" ∧ yX7_booked.cls ≠ "java/lang/invoke/VarHandle" ∧ (parseMethodDescriptor yX7_booked.desc).map (fun d => d.parameters.length) = some 2 := ⟨rfl, kdN_X7_booked⟩
def vX7_booked (y : MS) (wh : Int32) (ah : Int32) : Int32 := (if (vX7_isWheel wh) = true then (if (vX7_isAhead ah) = true then (y.1 0 (215 + 21 * (cl wh) + (cl ah))) else (-2)) else (-1))
abbrev rmX7_booked : Room := { frames := 2, cells := 0, slots := 0, locals := 42 }
set_option maxHeartbeats 4000000 in
set_option maxRecDepth 100000 in
theorem k_X7_booked (l : Launch) {k : gK} {L : List Nat} {f : Nat → va_E} {o : Nat → Nat} {y : MS} (hW : isMS k L f o y) (wh : Int32) (ah : Int32) : kR l k L f yX7_booked wsX7_booked rmX7_booked [.ref (o 0), .int wh, .int ah] (.int (vX7_booked y wh ah)) := by
  refine kR_of (cc := cX7_booked) (maxL := 3) (ret := (some .int)) (by decide) rfl (Nat.le_of_ble_eq_true rfl) ?_
  intro p e s m args below meth c C hr
  refine gx_lv [(0, _), (1, _), (2, _)] [0, 1, 2] rfl ?_
  refine gx_iload_n (q := 1) C dX7_booked_0 rfl ?_
  refine gx_callRS C (k_X7_isWheel l (k := k) (L := L) _) (va_cwS 1 C.2.2.2.2.1 gX7_booked_X7_isWheel rfl rfl rfl kdN_X7_isWheel ⟨Nat.le_of_ble_eq_true rfl, Nat.le_of_ble_eq_true rfl⟩) rfl rfl (Nat.le_of_ble_eq_true rfl) ⟨Nat.le_of_ble_eq_true rfl, Nat.le_of_ble_eq_true rfl⟩ dX7_booked_1 ?_
  refine gx_if_ne (tgt := 9) C dX7_booked_4 (by decide) (fun c_4 => ?_) (fun c_4 => ?_)
  · skip
    have h_4 := bI1.mp c_4
    refine gx_iload_n (q := 2) C dX7_booked_9 rfl ?_
    refine gx_callRS C (k_X7_isAhead l (k := k) (L := L) _) (va_cwS 1 C.2.2.2.2.1 gX7_booked_X7_isAhead rfl rfl rfl kdN_X7_isAhead ⟨Nat.le_of_ble_eq_true rfl, Nat.le_of_ble_eq_true rfl⟩) rfl rfl (Nat.le_of_ble_eq_true rfl) ⟨Nat.le_of_ble_eq_true rfl, Nat.le_of_ble_eq_true rfl⟩ dX7_booked_10 ?_
    refine gx_if_eq (tgt := 25) C dX7_booked_13 (by decide) (fun c_13 => ?_) (fun c_13 => ?_)
    · skip
      have h_13 := bI0.mp c_13
      refine gx_bipush (v := (-2)) C dX7_booked_25 (by decide) ?_
      exact gx_iretR C rfl hr dX7_booked_27 (congrArg Value.int ((if_pos h_4).trans ((if_neg (bF h_13)).trans (rfl))).symm)
    · skip
      have h_13 := bI1.mp c_13
      obtain ⟨n_wh, b_wh⟩ := mWheel h_4
      obtain ⟨n_ah, b_ah⟩ := mAhead h_13
      refine gx_aload_n (q := 0) C dX7_booked_16 rfl ?_
      refine gx_iload_n (q := 1) C dX7_booked_17 rfl ?_
      refine gx_iload_n (q := 2) C dX7_booked_18 rfl ?_
      refine gx_callR C (k_X7_bookedBy l hW _ _ (i := (cl wh)) n_wh (by omega) (j := (cl ah)) n_ah (by omega)) (isMS_in hW 0 (Nat.le_of_ble_eq_true rfl)) (isMS_0 hW) rfl (cwV 2 C.2.2.2.2.1 gX7_booked_X7_bookedBy rfl rfl rfl kdV_X7_bookedBy ⟨Nat.le_of_ble_eq_true rfl, Nat.le_of_ble_eq_true rfl⟩) rfl rfl (Nat.le_of_ble_eq_true rfl) ⟨Nat.le_of_ble_eq_true rfl, Nat.le_of_ble_eq_true rfl⟩ dX7_booked_19 ?_
      refine gx_goto (tgt := 27) C dX7_booked_22 (by decide) ?_
      exact gx_iretR C rfl hr dX7_booked_27 (congrArg Value.int ((if_pos h_4).trans ((if_pos h_13).trans (rfl))).symm)
  · skip
    have h_4 := bI0.mp c_4
    refine gx_iconst (v := (-1)) C dX7_booked_7 (by decide) ?_
    exact gx_iretR C rfl hr dX7_booked_8 (congrArg Value.int ((if_neg (bF h_4)).trans (rfl)).symm)
theorem kdN_X7_loadable : yX7_loadable.cls ≠ "java/lang/invoke/MethodHandle" ∧ yX7_loadable.cls ≠ "java/lang/invoke/VarHandle" ∧ (parseMethodDescriptor yX7_loadable.desc).map (fun d => d.parameters.length) = some 0 := by decide +kernel
theorem kdV_X7_loadable : yX7_loadable.cls = RX7 ∧ yX7_loadable.cls ≠ "java/lang/invoke/MethodHandle" ∧ yX7_loadable.cls ≠ "java/lang/invoke/VarHandle" ∧ (parseMethodDescriptor yX7_loadable.desc).map (fun d => d.parameters.length) = some 0 := ⟨rfl, kdN_X7_loadable⟩
def zLdP (y : MS) : Nat → Bool := fun i => decide (vX7_whyNot y (nI i) i = 0)
def zLoadable (y : MS) : Int32 := mk (zLdP y) (mN y)
theorem in_X7_loadable_7 : ∀ w ∈ u_ws RX7 TX7 13, w ∈ wsX7_loadable := by decide +kernel
theorem fl_X7_loadable_7 : Cond.fieldLink RX7 7 (TX7 0).1 (TX7 0).2.1 (TX7 0).2.2.1 ∈ wsX7_loadable := by decide +kernel
abbrev rmX7_loadable : Room := { frames := 3, cells := 0, slots := 0, locals := 67 }
set_option maxHeartbeats 4000000 in
set_option maxRecDepth 100000 in
theorem k_X7_loadable (l : Launch) {k : gK} {L : List Nat} {f : Nat → va_E} {o : Nat → Nat} {y : MS} (hW : isMS k L f o y) (hM : mOK y)  : kR l k L f yX7_loadable wsX7_loadable rmX7_loadable [.ref (o 0)] (.int (zLoadable y)) := by
  refine kR_of (cc := cX7_loadable) (maxL := 3) (ret := (some .int)) (by decide) rfl (Nat.le_of_ble_eq_true rfl) ?_
  intro p e s m args below meth c C hr
  refine gx_lv [(0, _)] [0] rfl ?_
  refine gx_iconst (v := 0) C dX7_loadable_0 (by decide) ?_
  refine gx_istore_n C (i := 1) [(1, _), (0, _)] dX7_loadable_1 rfl (by decide) rfl ?_
  refine gx_iconst (v := 0) C dX7_loadable_2 (by decide) ?_
  refine gx_istore_n C (i := 2) [(2, _), (1, _), (0, _)] dX7_loadable_3 rfl (by decide) rfl ?_
  refine gx_loop (σ := Nat) (fun i => f) (fun i => [(0, .ref (o 0)), (1, .int (mk (zLdP y) i)), (2, .int (nI i))]) (fun i => i ≤ mN y) (fun i => mN y - i) 0 [2, 1, 0] rfl rfl ?_ ?_
  · exact Nat.zero_le _
  intro i hI ih
  try dsimp only at hI ih ⊢
  have h20 := hM.2
  refine gx_iload_n (q := 2) C dX7_loadable_4 rfl ?_
  refine gx_aload_n (q := 0) C dX7_loadable_5 rfl ?_
  refine gx_get C (i := 0) (isMS_in hW 0 (Nat.le_of_ble_eq_true rfl)) (isMS_0 hW) rfl in_X7_loadable_7 (by decide) fl_X7_loadable_7 rfl dX7_loadable_6 ?_
  refine gx_bipush (v := 7) C dX7_loadable_9 (by decide) ?_
  refine gx_ialdN C (isMS_in hW 1 (Nat.le_of_ble_eq_true rfl)) (isMS_a0 hW) (nLit 7) (by omega) (by decide) dX7_loadable_11 ?_
  refine gx_top (nI (mN y)) hM.1 ?_
  refine gx_icmp_ge (tgt := 39) C dX7_loadable_12 (by decide) (fun c_12 => ?_) (fun c_12 => ?_)
  · skip
    have hb := (nI_leI (by omega) (by omega)).mp c_12
    refine gx_iload_n (q := 1) C dX7_loadable_39 rfl ?_
    exact gx_iretR C rfl hr dX7_loadable_40 (congrArg Value.int (by rw [show i = mN y by omega]; rfl))
  · skip
    have hlt : i < mN y := Nat.lt_of_not_le (fun z => c_12 ((nI_leI (by omega) (by omega)).mpr z))
    refine gx_iload_n (q := 1) C dX7_loadable_15 rfl ?_
    refine gx_aload_n (q := 0) C dX7_loadable_16 rfl ?_
    refine gx_iload_n (q := 2) C dX7_loadable_17 rfl ?_
    refine gx_callR C (k_X7_whyNot l hW hM _ (i := i) rfl (by omega)) (isMS_in hW 0 (Nat.le_of_ble_eq_true rfl)) (isMS_0 hW) rfl (cwV 1 C.2.2.2.2.1 gX7_loadable_X7_whyNot rfl rfl rfl kdV_X7_whyNot ⟨Nat.le_of_ble_eq_true rfl, Nat.le_of_ble_eq_true rfl⟩) rfl rfl (Nat.le_of_ble_eq_true rfl) ⟨Nat.le_of_ble_eq_true rfl, Nat.le_of_ble_eq_true rfl⟩ dX7_loadable_18 ?_
    refine gx_if_ne (tgt := 30) C dX7_loadable_21 (by decide) (fun c_21 => ?_) (fun c_21 => ?_)
    · skip
      refine gx_iconst (v := 0) C dX7_loadable_30 (by decide) ?_
      refine gx_ior C dX7_loadable_31 ?_
      refine gx_istore_n C (i := 1) [(1, _), (0, _), (2, _)] dX7_loadable_32 rfl (by decide) rfl ?_
      refine gx_iinc C (q := 2) (v := nI (i + 1)) [(2, _), (1, _), (0, _)] dX7_loadable_33 rfl (nI_inc i) (by decide) rfl ?_
      refine gx_goto (tgt := 4) C dX7_loadable_36 (by decide) ?_
      exact gx_back [2, 1, 0] (ih (i + 1) (by omega) (by omega)) rfl (by rw [mk_f (P := zLdP y) (decide_eq_false c_21), or0]; rfl)
    · skip
      refine gx_iconst (v := 1) C dX7_loadable_24 (by decide) ?_
      refine gx_iload_n (q := 2) C dX7_loadable_25 rfl ?_
      refine gx_ishl C dX7_loadable_26 ?_
      refine gx_goto (tgt := 31) C dX7_loadable_27 (by decide) ?_
      refine gx_ior C dX7_loadable_31 ?_
      refine gx_istore_n C (i := 1) [(1, _), (0, _), (2, _)] dX7_loadable_32 rfl (by decide) rfl ?_
      refine gx_iinc C (q := 2) (v := nI (i + 1)) [(2, _), (1, _), (0, _)] dX7_loadable_33 rfl (nI_inc i) (by decide) rfl ?_
      refine gx_goto (tgt := 4) C dX7_loadable_36 (by decide) ?_
      exact gx_back [2, 1, 0] (ih (i + 1) (by omega) (by omega)) rfl (by rw [mk_t (P := zLdP y) (decide_eq_true c_21)]; rfl)
theorem kdN_X7_count : yX7_count.cls ≠ "java/lang/invoke/MethodHandle" ∧ yX7_count.cls ≠ "java/lang/invoke/VarHandle" ∧ (parseMethodDescriptor yX7_count.desc).map (fun d => d.parameters.length) = some 1 := by decide +kernel
theorem kdV_X7_count : yX7_count.cls = RX7 ∧ yX7_count.cls ≠ "java/lang/invoke/MethodHandle" ∧ yX7_count.cls ≠ "java/lang/invoke/VarHandle" ∧ (parseMethodDescriptor yX7_count.desc).map (fun d => d.parameters.length) = some 1 := ⟨rfl, kdN_X7_count⟩
theorem isW_sub {n : Int32} {lo hi b : Nat} (hlo : lo < 2 ^ 31) (hhi : hi < 2 ^ 31) (hb : b ≤ 100) (h : isW n (nI lo) (nI hi) = true) : nI b + n - nI lo = nI (b + (cl n - lo)) ∧ cl n - lo ≤ hi - lo := by
  obtain ⟨j, h1, h2, rfl⟩ := isW_of hlo hhi h
  rw [cl, nI_clamp (by omega), nI_add, pk_sub (by omega)]
  exact ⟨congrArg nI (by omega), by omega⟩
def vX7_count (y : MS) (what : Int32) : Int32 := (if (isW what 11 14) = true then (y.1 0 (11 + (cl what - 11))) else (if (isW what 15 18) = true then (y.1 0 (2 + (cl what - 15))) else (if what = 0 then (y.1 0 (0)) else (if what = 1 then (y.1 0 (6)) else (if what = 2 then (y.1 0 (7)) else (if what = 3 then (zPotsAt y 0) else (if what = 4 then (zPotsAt y 1) else (if what = 5 then (zSz (y.1 0) (mN y)) else (if what = 6 then (vX7_freePlaces y ) else (if what = 7 then (zLoadable y) else (if what = 8 then (y.1 0 (8)) else (if what = 9 then (y.1 0 (9)) else (if what = 10 then (y.1 0 (10)) else (if what = 11 then (-2) else (if what = 12 then (-2) else (if what = 13 then (-2) else (if what = 14 then (-2) else (if what = 15 then (-2) else (if what = 16 then (-2) else (if what = 17 then (-2) else (if what = 18 then (-2) else (if what = 19 then (y.2 1) else (if what = 20 then (y.2 0) else (-2))))))))))))))))))))))))
theorem in_X7_count_7 : ∀ w ∈ u_ws RX7 TX7 13, w ∈ wsX7_count := by decide +kernel
theorem fl_X7_count_7 : Cond.fieldLink RX7 7 (TX7 0).1 (TX7 0).2.1 (TX7 0).2.2.1 ∈ wsX7_count := by decide +kernel
theorem fl_X7_count_175 : Cond.fieldLink RX7 175 (TX7 6).1 (TX7 6).2.1 (TX7 6).2.2.1 ∈ wsX7_count := by decide +kernel
theorem fl_X7_count_30 : Cond.fieldLink RX7 30 (TX7 2).1 (TX7 2).2.1 (TX7 2).2.2.1 ∈ wsX7_count := by decide +kernel
abbrev rmX7_count : Room := { frames := 4, cells := 0, slots := 0, locals := 89 }
set_option maxHeartbeats 4000000 in
set_option maxRecDepth 100000 in
theorem k_X7_count (l : Launch) {k : gK} {L : List Nat} {f : Nat → va_E} {o : Nat → Nat} {y : MS} (hW : isMS k L f o y) (hM : mOK y) (what : Int32) : kR l k L f yX7_count wsX7_count rmX7_count [.ref (o 0), .int what] (.int (vX7_count y what)) := by
  refine kR_of (cc := cX7_count) (maxL := 2) (ret := (some .int)) (by decide) rfl (Nat.le_of_ble_eq_true rfl) ?_
  intro p e s m args below meth c C hr
  refine gx_lv [(0, _), (1, _)] [0, 1] rfl ?_
  refine gx_iload_n (q := 1) C dX7_count_0 rfl ?_
  refine gx_bipush (v := 11) C dX7_count_1 (by decide) ?_
  refine gx_bipush (v := 14) C dX7_count_3 (by decide) ?_
  refine gx_callRS C (k_X7_in l (k := k) (L := L) _ _ _) (va_cwS 3 C.2.2.2.2.1 gX7_count_X7_in rfl rfl rfl kdN_X7_in ⟨Nat.le_of_ble_eq_true rfl, Nat.le_of_ble_eq_true rfl⟩) rfl rfl (Nat.le_of_ble_eq_true rfl) ⟨Nat.le_of_ble_eq_true rfl, Nat.le_of_ble_eq_true rfl⟩ dX7_count_5 ?_
  refine gx_if_eq (tgt := 24) C dX7_count_8 (by decide) (fun c_8 => ?_) (fun c_8 => ?_)
  · skip
    have h_8 := bI0.mp c_8
    refine gx_iload_n (q := 1) C dX7_count_24 rfl ?_
    refine gx_bipush (v := 15) C dX7_count_25 (by decide) ?_
    refine gx_bipush (v := 18) C dX7_count_27 (by decide) ?_
    refine gx_callRS C (k_X7_in l (k := k) (L := L) _ _ _) (va_cwS 3 C.2.2.2.2.1 gX7_count_X7_in rfl rfl rfl kdN_X7_in ⟨Nat.le_of_ble_eq_true rfl, Nat.le_of_ble_eq_true rfl⟩) rfl rfl (Nat.le_of_ble_eq_true rfl) ⟨Nat.le_of_ble_eq_true rfl, Nat.le_of_ble_eq_true rfl⟩ dX7_count_29 ?_
    refine gx_if_eq (tgt := 47) C dX7_count_32 (by decide) (fun c_32 => ?_) (fun c_32 => ?_)
    · skip
      have h_32 := bI0.mp c_32
      refine gx_iload_n (q := 1) C dX7_count_47 rfl ?_
      refine gsw_split 0 20 what ?_ ?_
      · intro sw_48
        refine gx_tableOut (tgt := 232) C dX7_count_48 sw_48 (by decide) ?_
        have n48_0 : ¬ what = 0 := gsw_ne sw_48 (by decide)
        have n48_1 : ¬ what = 1 := gsw_ne sw_48 (by decide)
        have n48_2 : ¬ what = 2 := gsw_ne sw_48 (by decide)
        have n48_3 : ¬ what = 3 := gsw_ne sw_48 (by decide)
        have n48_4 : ¬ what = 4 := gsw_ne sw_48 (by decide)
        have n48_5 : ¬ what = 5 := gsw_ne sw_48 (by decide)
        have n48_6 : ¬ what = 6 := gsw_ne sw_48 (by decide)
        have n48_7 : ¬ what = 7 := gsw_ne sw_48 (by decide)
        have n48_8 : ¬ what = 8 := gsw_ne sw_48 (by decide)
        have n48_9 : ¬ what = 9 := gsw_ne sw_48 (by decide)
        have n48_10 : ¬ what = 10 := gsw_ne sw_48 (by decide)
        have n48_11 : ¬ what = 11 := gsw_ne sw_48 (by decide)
        have n48_12 : ¬ what = 12 := gsw_ne sw_48 (by decide)
        have n48_13 : ¬ what = 13 := gsw_ne sw_48 (by decide)
        have n48_14 : ¬ what = 14 := gsw_ne sw_48 (by decide)
        have n48_15 : ¬ what = 15 := gsw_ne sw_48 (by decide)
        have n48_16 : ¬ what = 16 := gsw_ne sw_48 (by decide)
        have n48_17 : ¬ what = 17 := gsw_ne sw_48 (by decide)
        have n48_18 : ¬ what = 18 := gsw_ne sw_48 (by decide)
        have n48_19 : ¬ what = 19 := gsw_ne sw_48 (by decide)
        have n48_20 : ¬ what = 20 := gsw_ne sw_48 (by decide)
        refine gx_bipush (v := (-2)) C dX7_count_232 (by decide) ?_
        exact gx_iretR C rfl hr dX7_count_234 (congrArg Value.int ((if_neg (bF h_8)).trans ((if_neg (bF h_32)).trans ((if_neg n48_0).trans ((if_neg n48_1).trans ((if_neg n48_2).trans ((if_neg n48_3).trans ((if_neg n48_4).trans ((if_neg n48_5).trans ((if_neg n48_6).trans ((if_neg n48_7).trans ((if_neg n48_8).trans ((if_neg n48_9).trans ((if_neg n48_10).trans ((if_neg n48_11).trans ((if_neg n48_12).trans ((if_neg n48_13).trans ((if_neg n48_14).trans ((if_neg n48_15).trans ((if_neg n48_16).trans ((if_neg n48_17).trans ((if_neg n48_18).trans ((if_neg n48_19).trans ((if_neg n48_20).trans (rfl)))))))))))))))))))))))).symm)
      · intro j hj1 hj2 sw_48
        obtain rfl | rfl | rfl | rfl | rfl | rfl | rfl | rfl | rfl | rfl | rfl | rfl | rfl | rfl | rfl | rfl | rfl | rfl | rfl | rfl | rfl : j = 0 ∨ j = 1 ∨ j = 2 ∨ j = 3 ∨ j = 4 ∨ j = 5 ∨ j = 6 ∨ j = 7 ∨ j = 8 ∨ j = 9 ∨ j = 10 ∨ j = 11 ∨ j = 12 ∨ j = 13 ∨ j = 14 ∨ j = 15 ∨ j = 16 ∨ j = 17 ∨ j = 18 ∨ j = 19 ∨ j = 20 := by omega
        · skip
          refine gx_tableIn (off := 100) (tgt := 148) C dX7_count_48 (by rw [sw_48]; decide) (by rw [sw_48]; decide) (by rw [sw_48]; rfl) (by decide) ?_
          have e48_0 : what = 0 := gsw_eq sw_48 (by decide)
          refine gx_aload_n (q := 0) C dX7_count_148 rfl ?_
          refine gx_get C (i := 0) (isMS_in hW 0 (Nat.le_of_ble_eq_true rfl)) (isMS_0 hW) rfl in_X7_count_7 (by decide) fl_X7_count_7 rfl dX7_count_149 ?_
          refine gx_iconst (v := 0) C dX7_count_152 (by decide) ?_
          refine gx_ialdN C (isMS_in hW 1 (Nat.le_of_ble_eq_true rfl)) (isMS_a0 hW) (nLit 0) (by omega) (by decide) dX7_count_153 ?_
          exact gx_iretR C rfl hr dX7_count_154 (congrArg Value.int ((if_neg (bF h_8)).trans ((if_neg (bF h_32)).trans ((if_pos e48_0).trans (rfl)))).symm)
        · skip
          refine gx_tableIn (off := 107) (tgt := 155) C dX7_count_48 (by rw [sw_48]; decide) (by rw [sw_48]; decide) (by rw [sw_48]; rfl) (by decide) ?_
          have e48_1 : what = 1 := gsw_eq sw_48 (by decide)
          have n48_0 : ¬ what = 0 := gsw_n2 e48_1 (by decide)
          refine gx_aload_n (q := 0) C dX7_count_155 rfl ?_
          refine gx_get C (i := 0) (isMS_in hW 0 (Nat.le_of_ble_eq_true rfl)) (isMS_0 hW) rfl in_X7_count_7 (by decide) fl_X7_count_7 rfl dX7_count_156 ?_
          refine gx_bipush (v := 6) C dX7_count_159 (by decide) ?_
          refine gx_ialdN C (isMS_in hW 1 (Nat.le_of_ble_eq_true rfl)) (isMS_a0 hW) (nLit 6) (by omega) (by decide) dX7_count_161 ?_
          exact gx_iretR C rfl hr dX7_count_162 (congrArg Value.int ((if_neg (bF h_8)).trans ((if_neg (bF h_32)).trans ((if_neg n48_0).trans ((if_pos e48_1).trans (rfl))))).symm)
        · skip
          refine gx_tableIn (off := 115) (tgt := 163) C dX7_count_48 (by rw [sw_48]; decide) (by rw [sw_48]; decide) (by rw [sw_48]; rfl) (by decide) ?_
          have e48_2 : what = 2 := gsw_eq sw_48 (by decide)
          have n48_0 : ¬ what = 0 := gsw_n2 e48_2 (by decide)
          have n48_1 : ¬ what = 1 := gsw_n2 e48_2 (by decide)
          refine gx_aload_n (q := 0) C dX7_count_163 rfl ?_
          refine gx_get C (i := 0) (isMS_in hW 0 (Nat.le_of_ble_eq_true rfl)) (isMS_0 hW) rfl in_X7_count_7 (by decide) fl_X7_count_7 rfl dX7_count_164 ?_
          refine gx_bipush (v := 7) C dX7_count_167 (by decide) ?_
          refine gx_ialdN C (isMS_in hW 1 (Nat.le_of_ble_eq_true rfl)) (isMS_a0 hW) (nLit 7) (by omega) (by decide) dX7_count_169 ?_
          exact gx_iretR C rfl hr dX7_count_170 (congrArg Value.int ((if_neg (bF h_8)).trans ((if_neg (bF h_32)).trans ((if_neg n48_0).trans ((if_neg n48_1).trans ((if_pos e48_2).trans (rfl)))))).symm)
        · skip
          refine gx_tableIn (off := 123) (tgt := 171) C dX7_count_48 (by rw [sw_48]; decide) (by rw [sw_48]; decide) (by rw [sw_48]; rfl) (by decide) ?_
          have e48_3 : what = 3 := gsw_eq sw_48 (by decide)
          have n48_0 : ¬ what = 0 := gsw_n2 e48_3 (by decide)
          have n48_1 : ¬ what = 1 := gsw_n2 e48_3 (by decide)
          have n48_2 : ¬ what = 2 := gsw_n2 e48_3 (by decide)
          refine gx_aload_n (q := 0) C dX7_count_171 rfl ?_
          refine gx_iconst (v := 0) C dX7_count_172 (by decide) ?_
          refine gx_callR C (k_X7_potsAt l hW hM _) (isMS_in hW 0 (Nat.le_of_ble_eq_true rfl)) (isMS_0 hW) rfl (cwV 1 C.2.2.2.2.1 gX7_count_X7_potsAt rfl rfl rfl kdV_X7_potsAt ⟨Nat.le_of_ble_eq_true rfl, Nat.le_of_ble_eq_true rfl⟩) rfl rfl (Nat.le_of_ble_eq_true rfl) ⟨Nat.le_of_ble_eq_true rfl, Nat.le_of_ble_eq_true rfl⟩ dX7_count_173 ?_
          exact gx_iretR C rfl hr dX7_count_176 (congrArg Value.int ((if_neg (bF h_8)).trans ((if_neg (bF h_32)).trans ((if_neg n48_0).trans ((if_neg n48_1).trans ((if_neg n48_2).trans ((if_pos e48_3).trans (rfl))))))).symm)
        · skip
          refine gx_tableIn (off := 129) (tgt := 177) C dX7_count_48 (by rw [sw_48]; decide) (by rw [sw_48]; decide) (by rw [sw_48]; rfl) (by decide) ?_
          have e48_4 : what = 4 := gsw_eq sw_48 (by decide)
          have n48_0 : ¬ what = 0 := gsw_n2 e48_4 (by decide)
          have n48_1 : ¬ what = 1 := gsw_n2 e48_4 (by decide)
          have n48_2 : ¬ what = 2 := gsw_n2 e48_4 (by decide)
          have n48_3 : ¬ what = 3 := gsw_n2 e48_4 (by decide)
          refine gx_aload_n (q := 0) C dX7_count_177 rfl ?_
          refine gx_iconst (v := 1) C dX7_count_178 (by decide) ?_
          refine gx_callR C (k_X7_potsAt l hW hM _) (isMS_in hW 0 (Nat.le_of_ble_eq_true rfl)) (isMS_0 hW) rfl (cwV 1 C.2.2.2.2.1 gX7_count_X7_potsAt rfl rfl rfl kdV_X7_potsAt ⟨Nat.le_of_ble_eq_true rfl, Nat.le_of_ble_eq_true rfl⟩) rfl rfl (Nat.le_of_ble_eq_true rfl) ⟨Nat.le_of_ble_eq_true rfl, Nat.le_of_ble_eq_true rfl⟩ dX7_count_179 ?_
          exact gx_iretR C rfl hr dX7_count_182 (congrArg Value.int ((if_neg (bF h_8)).trans ((if_neg (bF h_32)).trans ((if_neg n48_0).trans ((if_neg n48_1).trans ((if_neg n48_2).trans ((if_neg n48_3).trans ((if_pos e48_4).trans (rfl)))))))).symm)
        · skip
          refine gx_tableIn (off := 135) (tgt := 183) C dX7_count_48 (by rw [sw_48]; decide) (by rw [sw_48]; decide) (by rw [sw_48]; rfl) (by decide) ?_
          have e48_5 : what = 5 := gsw_eq sw_48 (by decide)
          have n48_0 : ¬ what = 0 := gsw_n2 e48_5 (by decide)
          have n48_1 : ¬ what = 1 := gsw_n2 e48_5 (by decide)
          have n48_2 : ¬ what = 2 := gsw_n2 e48_5 (by decide)
          have n48_3 : ¬ what = 3 := gsw_n2 e48_5 (by decide)
          have n48_4 : ¬ what = 4 := gsw_n2 e48_5 (by decide)
          refine gx_aload_n (q := 0) C dX7_count_183 rfl ?_
          refine gx_callR C (k_X7_sizesInKiln l hW hM) (isMS_in hW 0 (Nat.le_of_ble_eq_true rfl)) (isMS_0 hW) rfl (cwV 0 C.2.2.2.2.1 gX7_count_X7_sizesInKiln rfl rfl rfl kdV_X7_sizesInKiln ⟨Nat.le_of_ble_eq_true rfl, Nat.le_of_ble_eq_true rfl⟩) rfl rfl (Nat.le_of_ble_eq_true rfl) ⟨Nat.le_of_ble_eq_true rfl, Nat.le_of_ble_eq_true rfl⟩ dX7_count_184 ?_
          exact gx_iretR C rfl hr dX7_count_187 (congrArg Value.int ((if_neg (bF h_8)).trans ((if_neg (bF h_32)).trans ((if_neg n48_0).trans ((if_neg n48_1).trans ((if_neg n48_2).trans ((if_neg n48_3).trans ((if_neg n48_4).trans ((if_pos e48_5).trans (rfl))))))))).symm)
        · skip
          refine gx_tableIn (off := 140) (tgt := 188) C dX7_count_48 (by rw [sw_48]; decide) (by rw [sw_48]; decide) (by rw [sw_48]; rfl) (by decide) ?_
          have e48_6 : what = 6 := gsw_eq sw_48 (by decide)
          have n48_0 : ¬ what = 0 := gsw_n2 e48_6 (by decide)
          have n48_1 : ¬ what = 1 := gsw_n2 e48_6 (by decide)
          have n48_2 : ¬ what = 2 := gsw_n2 e48_6 (by decide)
          have n48_3 : ¬ what = 3 := gsw_n2 e48_6 (by decide)
          have n48_4 : ¬ what = 4 := gsw_n2 e48_6 (by decide)
          have n48_5 : ¬ what = 5 := gsw_n2 e48_6 (by decide)
          refine gx_aload_n (q := 0) C dX7_count_188 rfl ?_
          refine gx_callR C (k_X7_freePlaces l hW hM) (isMS_in hW 0 (Nat.le_of_ble_eq_true rfl)) (isMS_0 hW) rfl (cwV 0 C.2.2.2.2.1 gX7_count_X7_freePlaces rfl rfl rfl kdV_X7_freePlaces ⟨Nat.le_of_ble_eq_true rfl, Nat.le_of_ble_eq_true rfl⟩) rfl rfl (Nat.le_of_ble_eq_true rfl) ⟨Nat.le_of_ble_eq_true rfl, Nat.le_of_ble_eq_true rfl⟩ dX7_count_189 ?_
          exact gx_iretR C rfl hr dX7_count_192 (congrArg Value.int ((if_neg (bF h_8)).trans ((if_neg (bF h_32)).trans ((if_neg n48_0).trans ((if_neg n48_1).trans ((if_neg n48_2).trans ((if_neg n48_3).trans ((if_neg n48_4).trans ((if_neg n48_5).trans ((if_pos e48_6).trans (rfl)))))))))).symm)
        · skip
          refine gx_tableIn (off := 145) (tgt := 193) C dX7_count_48 (by rw [sw_48]; decide) (by rw [sw_48]; decide) (by rw [sw_48]; rfl) (by decide) ?_
          have e48_7 : what = 7 := gsw_eq sw_48 (by decide)
          have n48_0 : ¬ what = 0 := gsw_n2 e48_7 (by decide)
          have n48_1 : ¬ what = 1 := gsw_n2 e48_7 (by decide)
          have n48_2 : ¬ what = 2 := gsw_n2 e48_7 (by decide)
          have n48_3 : ¬ what = 3 := gsw_n2 e48_7 (by decide)
          have n48_4 : ¬ what = 4 := gsw_n2 e48_7 (by decide)
          have n48_5 : ¬ what = 5 := gsw_n2 e48_7 (by decide)
          have n48_6 : ¬ what = 6 := gsw_n2 e48_7 (by decide)
          refine gx_aload_n (q := 0) C dX7_count_193 rfl ?_
          refine gx_callR C (k_X7_loadable l hW hM) (isMS_in hW 0 (Nat.le_of_ble_eq_true rfl)) (isMS_0 hW) rfl (cwV 0 C.2.2.2.2.1 gX7_count_X7_loadable rfl rfl rfl kdV_X7_loadable ⟨Nat.le_of_ble_eq_true rfl, Nat.le_of_ble_eq_true rfl⟩) rfl rfl (Nat.le_of_ble_eq_true rfl) ⟨Nat.le_of_ble_eq_true rfl, Nat.le_of_ble_eq_true rfl⟩ dX7_count_194 ?_
          exact gx_iretR C rfl hr dX7_count_197 (congrArg Value.int ((if_neg (bF h_8)).trans ((if_neg (bF h_32)).trans ((if_neg n48_0).trans ((if_neg n48_1).trans ((if_neg n48_2).trans ((if_neg n48_3).trans ((if_neg n48_4).trans ((if_neg n48_5).trans ((if_neg n48_6).trans ((if_pos e48_7).trans (rfl))))))))))).symm)
        · skip
          refine gx_tableIn (off := 150) (tgt := 198) C dX7_count_48 (by rw [sw_48]; decide) (by rw [sw_48]; decide) (by rw [sw_48]; rfl) (by decide) ?_
          have e48_8 : what = 8 := gsw_eq sw_48 (by decide)
          have n48_0 : ¬ what = 0 := gsw_n2 e48_8 (by decide)
          have n48_1 : ¬ what = 1 := gsw_n2 e48_8 (by decide)
          have n48_2 : ¬ what = 2 := gsw_n2 e48_8 (by decide)
          have n48_3 : ¬ what = 3 := gsw_n2 e48_8 (by decide)
          have n48_4 : ¬ what = 4 := gsw_n2 e48_8 (by decide)
          have n48_5 : ¬ what = 5 := gsw_n2 e48_8 (by decide)
          have n48_6 : ¬ what = 6 := gsw_n2 e48_8 (by decide)
          have n48_7 : ¬ what = 7 := gsw_n2 e48_8 (by decide)
          refine gx_aload_n (q := 0) C dX7_count_198 rfl ?_
          refine gx_get C (i := 0) (isMS_in hW 0 (Nat.le_of_ble_eq_true rfl)) (isMS_0 hW) rfl in_X7_count_7 (by decide) fl_X7_count_7 rfl dX7_count_199 ?_
          refine gx_bipush (v := 8) C dX7_count_202 (by decide) ?_
          refine gx_ialdN C (isMS_in hW 1 (Nat.le_of_ble_eq_true rfl)) (isMS_a0 hW) (nLit 8) (by omega) (by decide) dX7_count_204 ?_
          exact gx_iretR C rfl hr dX7_count_205 (congrArg Value.int ((if_neg (bF h_8)).trans ((if_neg (bF h_32)).trans ((if_neg n48_0).trans ((if_neg n48_1).trans ((if_neg n48_2).trans ((if_neg n48_3).trans ((if_neg n48_4).trans ((if_neg n48_5).trans ((if_neg n48_6).trans ((if_neg n48_7).trans ((if_pos e48_8).trans (rfl)))))))))))).symm)
        · skip
          refine gx_tableIn (off := 158) (tgt := 206) C dX7_count_48 (by rw [sw_48]; decide) (by rw [sw_48]; decide) (by rw [sw_48]; rfl) (by decide) ?_
          have e48_9 : what = 9 := gsw_eq sw_48 (by decide)
          have n48_0 : ¬ what = 0 := gsw_n2 e48_9 (by decide)
          have n48_1 : ¬ what = 1 := gsw_n2 e48_9 (by decide)
          have n48_2 : ¬ what = 2 := gsw_n2 e48_9 (by decide)
          have n48_3 : ¬ what = 3 := gsw_n2 e48_9 (by decide)
          have n48_4 : ¬ what = 4 := gsw_n2 e48_9 (by decide)
          have n48_5 : ¬ what = 5 := gsw_n2 e48_9 (by decide)
          have n48_6 : ¬ what = 6 := gsw_n2 e48_9 (by decide)
          have n48_7 : ¬ what = 7 := gsw_n2 e48_9 (by decide)
          have n48_8 : ¬ what = 8 := gsw_n2 e48_9 (by decide)
          refine gx_aload_n (q := 0) C dX7_count_206 rfl ?_
          refine gx_get C (i := 0) (isMS_in hW 0 (Nat.le_of_ble_eq_true rfl)) (isMS_0 hW) rfl in_X7_count_7 (by decide) fl_X7_count_7 rfl dX7_count_207 ?_
          refine gx_bipush (v := 9) C dX7_count_210 (by decide) ?_
          refine gx_ialdN C (isMS_in hW 1 (Nat.le_of_ble_eq_true rfl)) (isMS_a0 hW) (nLit 9) (by omega) (by decide) dX7_count_212 ?_
          exact gx_iretR C rfl hr dX7_count_213 (congrArg Value.int ((if_neg (bF h_8)).trans ((if_neg (bF h_32)).trans ((if_neg n48_0).trans ((if_neg n48_1).trans ((if_neg n48_2).trans ((if_neg n48_3).trans ((if_neg n48_4).trans ((if_neg n48_5).trans ((if_neg n48_6).trans ((if_neg n48_7).trans ((if_neg n48_8).trans ((if_pos e48_9).trans (rfl))))))))))))).symm)
        · skip
          refine gx_tableIn (off := 166) (tgt := 214) C dX7_count_48 (by rw [sw_48]; decide) (by rw [sw_48]; decide) (by rw [sw_48]; rfl) (by decide) ?_
          have e48_10 : what = 10 := gsw_eq sw_48 (by decide)
          have n48_0 : ¬ what = 0 := gsw_n2 e48_10 (by decide)
          have n48_1 : ¬ what = 1 := gsw_n2 e48_10 (by decide)
          have n48_2 : ¬ what = 2 := gsw_n2 e48_10 (by decide)
          have n48_3 : ¬ what = 3 := gsw_n2 e48_10 (by decide)
          have n48_4 : ¬ what = 4 := gsw_n2 e48_10 (by decide)
          have n48_5 : ¬ what = 5 := gsw_n2 e48_10 (by decide)
          have n48_6 : ¬ what = 6 := gsw_n2 e48_10 (by decide)
          have n48_7 : ¬ what = 7 := gsw_n2 e48_10 (by decide)
          have n48_8 : ¬ what = 8 := gsw_n2 e48_10 (by decide)
          have n48_9 : ¬ what = 9 := gsw_n2 e48_10 (by decide)
          refine gx_aload_n (q := 0) C dX7_count_214 rfl ?_
          refine gx_get C (i := 0) (isMS_in hW 0 (Nat.le_of_ble_eq_true rfl)) (isMS_0 hW) rfl in_X7_count_7 (by decide) fl_X7_count_7 rfl dX7_count_215 ?_
          refine gx_bipush (v := 10) C dX7_count_218 (by decide) ?_
          refine gx_ialdN C (isMS_in hW 1 (Nat.le_of_ble_eq_true rfl)) (isMS_a0 hW) (nLit 10) (by omega) (by decide) dX7_count_220 ?_
          exact gx_iretR C rfl hr dX7_count_221 (congrArg Value.int ((if_neg (bF h_8)).trans ((if_neg (bF h_32)).trans ((if_neg n48_0).trans ((if_neg n48_1).trans ((if_neg n48_2).trans ((if_neg n48_3).trans ((if_neg n48_4).trans ((if_neg n48_5).trans ((if_neg n48_6).trans ((if_neg n48_7).trans ((if_neg n48_8).trans ((if_neg n48_9).trans ((if_pos e48_10).trans (rfl)))))))))))))).symm)
        · skip
          refine gx_tableIn (off := 184) (tgt := 232) C dX7_count_48 (by rw [sw_48]; decide) (by rw [sw_48]; decide) (by rw [sw_48]; rfl) (by decide) ?_
          have e48_11 : what = 11 := gsw_eq sw_48 (by decide)
          have n48_0 : ¬ what = 0 := gsw_n2 e48_11 (by decide)
          have n48_1 : ¬ what = 1 := gsw_n2 e48_11 (by decide)
          have n48_2 : ¬ what = 2 := gsw_n2 e48_11 (by decide)
          have n48_3 : ¬ what = 3 := gsw_n2 e48_11 (by decide)
          have n48_4 : ¬ what = 4 := gsw_n2 e48_11 (by decide)
          have n48_5 : ¬ what = 5 := gsw_n2 e48_11 (by decide)
          have n48_6 : ¬ what = 6 := gsw_n2 e48_11 (by decide)
          have n48_7 : ¬ what = 7 := gsw_n2 e48_11 (by decide)
          have n48_8 : ¬ what = 8 := gsw_n2 e48_11 (by decide)
          have n48_9 : ¬ what = 9 := gsw_n2 e48_11 (by decide)
          have n48_10 : ¬ what = 10 := gsw_n2 e48_11 (by decide)
          refine gx_bipush (v := (-2)) C dX7_count_232 (by decide) ?_
          exact gx_iretR C rfl hr dX7_count_234 (congrArg Value.int ((if_neg (bF h_8)).trans ((if_neg (bF h_32)).trans ((if_neg n48_0).trans ((if_neg n48_1).trans ((if_neg n48_2).trans ((if_neg n48_3).trans ((if_neg n48_4).trans ((if_neg n48_5).trans ((if_neg n48_6).trans ((if_neg n48_7).trans ((if_neg n48_8).trans ((if_neg n48_9).trans ((if_neg n48_10).trans ((if_pos e48_11).trans (rfl))))))))))))))).symm)
        · skip
          refine gx_tableIn (off := 184) (tgt := 232) C dX7_count_48 (by rw [sw_48]; decide) (by rw [sw_48]; decide) (by rw [sw_48]; rfl) (by decide) ?_
          have e48_12 : what = 12 := gsw_eq sw_48 (by decide)
          have n48_0 : ¬ what = 0 := gsw_n2 e48_12 (by decide)
          have n48_1 : ¬ what = 1 := gsw_n2 e48_12 (by decide)
          have n48_2 : ¬ what = 2 := gsw_n2 e48_12 (by decide)
          have n48_3 : ¬ what = 3 := gsw_n2 e48_12 (by decide)
          have n48_4 : ¬ what = 4 := gsw_n2 e48_12 (by decide)
          have n48_5 : ¬ what = 5 := gsw_n2 e48_12 (by decide)
          have n48_6 : ¬ what = 6 := gsw_n2 e48_12 (by decide)
          have n48_7 : ¬ what = 7 := gsw_n2 e48_12 (by decide)
          have n48_8 : ¬ what = 8 := gsw_n2 e48_12 (by decide)
          have n48_9 : ¬ what = 9 := gsw_n2 e48_12 (by decide)
          have n48_10 : ¬ what = 10 := gsw_n2 e48_12 (by decide)
          have n48_11 : ¬ what = 11 := gsw_n2 e48_12 (by decide)
          refine gx_bipush (v := (-2)) C dX7_count_232 (by decide) ?_
          exact gx_iretR C rfl hr dX7_count_234 (congrArg Value.int ((if_neg (bF h_8)).trans ((if_neg (bF h_32)).trans ((if_neg n48_0).trans ((if_neg n48_1).trans ((if_neg n48_2).trans ((if_neg n48_3).trans ((if_neg n48_4).trans ((if_neg n48_5).trans ((if_neg n48_6).trans ((if_neg n48_7).trans ((if_neg n48_8).trans ((if_neg n48_9).trans ((if_neg n48_10).trans ((if_neg n48_11).trans ((if_pos e48_12).trans (rfl)))))))))))))))).symm)
        · skip
          refine gx_tableIn (off := 184) (tgt := 232) C dX7_count_48 (by rw [sw_48]; decide) (by rw [sw_48]; decide) (by rw [sw_48]; rfl) (by decide) ?_
          have e48_13 : what = 13 := gsw_eq sw_48 (by decide)
          have n48_0 : ¬ what = 0 := gsw_n2 e48_13 (by decide)
          have n48_1 : ¬ what = 1 := gsw_n2 e48_13 (by decide)
          have n48_2 : ¬ what = 2 := gsw_n2 e48_13 (by decide)
          have n48_3 : ¬ what = 3 := gsw_n2 e48_13 (by decide)
          have n48_4 : ¬ what = 4 := gsw_n2 e48_13 (by decide)
          have n48_5 : ¬ what = 5 := gsw_n2 e48_13 (by decide)
          have n48_6 : ¬ what = 6 := gsw_n2 e48_13 (by decide)
          have n48_7 : ¬ what = 7 := gsw_n2 e48_13 (by decide)
          have n48_8 : ¬ what = 8 := gsw_n2 e48_13 (by decide)
          have n48_9 : ¬ what = 9 := gsw_n2 e48_13 (by decide)
          have n48_10 : ¬ what = 10 := gsw_n2 e48_13 (by decide)
          have n48_11 : ¬ what = 11 := gsw_n2 e48_13 (by decide)
          have n48_12 : ¬ what = 12 := gsw_n2 e48_13 (by decide)
          refine gx_bipush (v := (-2)) C dX7_count_232 (by decide) ?_
          exact gx_iretR C rfl hr dX7_count_234 (congrArg Value.int ((if_neg (bF h_8)).trans ((if_neg (bF h_32)).trans ((if_neg n48_0).trans ((if_neg n48_1).trans ((if_neg n48_2).trans ((if_neg n48_3).trans ((if_neg n48_4).trans ((if_neg n48_5).trans ((if_neg n48_6).trans ((if_neg n48_7).trans ((if_neg n48_8).trans ((if_neg n48_9).trans ((if_neg n48_10).trans ((if_neg n48_11).trans ((if_neg n48_12).trans ((if_pos e48_13).trans (rfl))))))))))))))))).symm)
        · skip
          refine gx_tableIn (off := 184) (tgt := 232) C dX7_count_48 (by rw [sw_48]; decide) (by rw [sw_48]; decide) (by rw [sw_48]; rfl) (by decide) ?_
          have e48_14 : what = 14 := gsw_eq sw_48 (by decide)
          have n48_0 : ¬ what = 0 := gsw_n2 e48_14 (by decide)
          have n48_1 : ¬ what = 1 := gsw_n2 e48_14 (by decide)
          have n48_2 : ¬ what = 2 := gsw_n2 e48_14 (by decide)
          have n48_3 : ¬ what = 3 := gsw_n2 e48_14 (by decide)
          have n48_4 : ¬ what = 4 := gsw_n2 e48_14 (by decide)
          have n48_5 : ¬ what = 5 := gsw_n2 e48_14 (by decide)
          have n48_6 : ¬ what = 6 := gsw_n2 e48_14 (by decide)
          have n48_7 : ¬ what = 7 := gsw_n2 e48_14 (by decide)
          have n48_8 : ¬ what = 8 := gsw_n2 e48_14 (by decide)
          have n48_9 : ¬ what = 9 := gsw_n2 e48_14 (by decide)
          have n48_10 : ¬ what = 10 := gsw_n2 e48_14 (by decide)
          have n48_11 : ¬ what = 11 := gsw_n2 e48_14 (by decide)
          have n48_12 : ¬ what = 12 := gsw_n2 e48_14 (by decide)
          have n48_13 : ¬ what = 13 := gsw_n2 e48_14 (by decide)
          refine gx_bipush (v := (-2)) C dX7_count_232 (by decide) ?_
          exact gx_iretR C rfl hr dX7_count_234 (congrArg Value.int ((if_neg (bF h_8)).trans ((if_neg (bF h_32)).trans ((if_neg n48_0).trans ((if_neg n48_1).trans ((if_neg n48_2).trans ((if_neg n48_3).trans ((if_neg n48_4).trans ((if_neg n48_5).trans ((if_neg n48_6).trans ((if_neg n48_7).trans ((if_neg n48_8).trans ((if_neg n48_9).trans ((if_neg n48_10).trans ((if_neg n48_11).trans ((if_neg n48_12).trans ((if_neg n48_13).trans ((if_pos e48_14).trans (rfl)))))))))))))))))).symm)
        · skip
          refine gx_tableIn (off := 184) (tgt := 232) C dX7_count_48 (by rw [sw_48]; decide) (by rw [sw_48]; decide) (by rw [sw_48]; rfl) (by decide) ?_
          have e48_15 : what = 15 := gsw_eq sw_48 (by decide)
          have n48_0 : ¬ what = 0 := gsw_n2 e48_15 (by decide)
          have n48_1 : ¬ what = 1 := gsw_n2 e48_15 (by decide)
          have n48_2 : ¬ what = 2 := gsw_n2 e48_15 (by decide)
          have n48_3 : ¬ what = 3 := gsw_n2 e48_15 (by decide)
          have n48_4 : ¬ what = 4 := gsw_n2 e48_15 (by decide)
          have n48_5 : ¬ what = 5 := gsw_n2 e48_15 (by decide)
          have n48_6 : ¬ what = 6 := gsw_n2 e48_15 (by decide)
          have n48_7 : ¬ what = 7 := gsw_n2 e48_15 (by decide)
          have n48_8 : ¬ what = 8 := gsw_n2 e48_15 (by decide)
          have n48_9 : ¬ what = 9 := gsw_n2 e48_15 (by decide)
          have n48_10 : ¬ what = 10 := gsw_n2 e48_15 (by decide)
          have n48_11 : ¬ what = 11 := gsw_n2 e48_15 (by decide)
          have n48_12 : ¬ what = 12 := gsw_n2 e48_15 (by decide)
          have n48_13 : ¬ what = 13 := gsw_n2 e48_15 (by decide)
          have n48_14 : ¬ what = 14 := gsw_n2 e48_15 (by decide)
          refine gx_bipush (v := (-2)) C dX7_count_232 (by decide) ?_
          exact gx_iretR C rfl hr dX7_count_234 (congrArg Value.int ((if_neg (bF h_8)).trans ((if_neg (bF h_32)).trans ((if_neg n48_0).trans ((if_neg n48_1).trans ((if_neg n48_2).trans ((if_neg n48_3).trans ((if_neg n48_4).trans ((if_neg n48_5).trans ((if_neg n48_6).trans ((if_neg n48_7).trans ((if_neg n48_8).trans ((if_neg n48_9).trans ((if_neg n48_10).trans ((if_neg n48_11).trans ((if_neg n48_12).trans ((if_neg n48_13).trans ((if_neg n48_14).trans ((if_pos e48_15).trans (rfl))))))))))))))))))).symm)
        · skip
          refine gx_tableIn (off := 184) (tgt := 232) C dX7_count_48 (by rw [sw_48]; decide) (by rw [sw_48]; decide) (by rw [sw_48]; rfl) (by decide) ?_
          have e48_16 : what = 16 := gsw_eq sw_48 (by decide)
          have n48_0 : ¬ what = 0 := gsw_n2 e48_16 (by decide)
          have n48_1 : ¬ what = 1 := gsw_n2 e48_16 (by decide)
          have n48_2 : ¬ what = 2 := gsw_n2 e48_16 (by decide)
          have n48_3 : ¬ what = 3 := gsw_n2 e48_16 (by decide)
          have n48_4 : ¬ what = 4 := gsw_n2 e48_16 (by decide)
          have n48_5 : ¬ what = 5 := gsw_n2 e48_16 (by decide)
          have n48_6 : ¬ what = 6 := gsw_n2 e48_16 (by decide)
          have n48_7 : ¬ what = 7 := gsw_n2 e48_16 (by decide)
          have n48_8 : ¬ what = 8 := gsw_n2 e48_16 (by decide)
          have n48_9 : ¬ what = 9 := gsw_n2 e48_16 (by decide)
          have n48_10 : ¬ what = 10 := gsw_n2 e48_16 (by decide)
          have n48_11 : ¬ what = 11 := gsw_n2 e48_16 (by decide)
          have n48_12 : ¬ what = 12 := gsw_n2 e48_16 (by decide)
          have n48_13 : ¬ what = 13 := gsw_n2 e48_16 (by decide)
          have n48_14 : ¬ what = 14 := gsw_n2 e48_16 (by decide)
          have n48_15 : ¬ what = 15 := gsw_n2 e48_16 (by decide)
          refine gx_bipush (v := (-2)) C dX7_count_232 (by decide) ?_
          exact gx_iretR C rfl hr dX7_count_234 (congrArg Value.int ((if_neg (bF h_8)).trans ((if_neg (bF h_32)).trans ((if_neg n48_0).trans ((if_neg n48_1).trans ((if_neg n48_2).trans ((if_neg n48_3).trans ((if_neg n48_4).trans ((if_neg n48_5).trans ((if_neg n48_6).trans ((if_neg n48_7).trans ((if_neg n48_8).trans ((if_neg n48_9).trans ((if_neg n48_10).trans ((if_neg n48_11).trans ((if_neg n48_12).trans ((if_neg n48_13).trans ((if_neg n48_14).trans ((if_neg n48_15).trans ((if_pos e48_16).trans (rfl)))))))))))))))))))).symm)
        · skip
          refine gx_tableIn (off := 184) (tgt := 232) C dX7_count_48 (by rw [sw_48]; decide) (by rw [sw_48]; decide) (by rw [sw_48]; rfl) (by decide) ?_
          have e48_17 : what = 17 := gsw_eq sw_48 (by decide)
          have n48_0 : ¬ what = 0 := gsw_n2 e48_17 (by decide)
          have n48_1 : ¬ what = 1 := gsw_n2 e48_17 (by decide)
          have n48_2 : ¬ what = 2 := gsw_n2 e48_17 (by decide)
          have n48_3 : ¬ what = 3 := gsw_n2 e48_17 (by decide)
          have n48_4 : ¬ what = 4 := gsw_n2 e48_17 (by decide)
          have n48_5 : ¬ what = 5 := gsw_n2 e48_17 (by decide)
          have n48_6 : ¬ what = 6 := gsw_n2 e48_17 (by decide)
          have n48_7 : ¬ what = 7 := gsw_n2 e48_17 (by decide)
          have n48_8 : ¬ what = 8 := gsw_n2 e48_17 (by decide)
          have n48_9 : ¬ what = 9 := gsw_n2 e48_17 (by decide)
          have n48_10 : ¬ what = 10 := gsw_n2 e48_17 (by decide)
          have n48_11 : ¬ what = 11 := gsw_n2 e48_17 (by decide)
          have n48_12 : ¬ what = 12 := gsw_n2 e48_17 (by decide)
          have n48_13 : ¬ what = 13 := gsw_n2 e48_17 (by decide)
          have n48_14 : ¬ what = 14 := gsw_n2 e48_17 (by decide)
          have n48_15 : ¬ what = 15 := gsw_n2 e48_17 (by decide)
          have n48_16 : ¬ what = 16 := gsw_n2 e48_17 (by decide)
          refine gx_bipush (v := (-2)) C dX7_count_232 (by decide) ?_
          exact gx_iretR C rfl hr dX7_count_234 (congrArg Value.int ((if_neg (bF h_8)).trans ((if_neg (bF h_32)).trans ((if_neg n48_0).trans ((if_neg n48_1).trans ((if_neg n48_2).trans ((if_neg n48_3).trans ((if_neg n48_4).trans ((if_neg n48_5).trans ((if_neg n48_6).trans ((if_neg n48_7).trans ((if_neg n48_8).trans ((if_neg n48_9).trans ((if_neg n48_10).trans ((if_neg n48_11).trans ((if_neg n48_12).trans ((if_neg n48_13).trans ((if_neg n48_14).trans ((if_neg n48_15).trans ((if_neg n48_16).trans ((if_pos e48_17).trans (rfl))))))))))))))))))))).symm)
        · skip
          refine gx_tableIn (off := 184) (tgt := 232) C dX7_count_48 (by rw [sw_48]; decide) (by rw [sw_48]; decide) (by rw [sw_48]; rfl) (by decide) ?_
          have e48_18 : what = 18 := gsw_eq sw_48 (by decide)
          have n48_0 : ¬ what = 0 := gsw_n2 e48_18 (by decide)
          have n48_1 : ¬ what = 1 := gsw_n2 e48_18 (by decide)
          have n48_2 : ¬ what = 2 := gsw_n2 e48_18 (by decide)
          have n48_3 : ¬ what = 3 := gsw_n2 e48_18 (by decide)
          have n48_4 : ¬ what = 4 := gsw_n2 e48_18 (by decide)
          have n48_5 : ¬ what = 5 := gsw_n2 e48_18 (by decide)
          have n48_6 : ¬ what = 6 := gsw_n2 e48_18 (by decide)
          have n48_7 : ¬ what = 7 := gsw_n2 e48_18 (by decide)
          have n48_8 : ¬ what = 8 := gsw_n2 e48_18 (by decide)
          have n48_9 : ¬ what = 9 := gsw_n2 e48_18 (by decide)
          have n48_10 : ¬ what = 10 := gsw_n2 e48_18 (by decide)
          have n48_11 : ¬ what = 11 := gsw_n2 e48_18 (by decide)
          have n48_12 : ¬ what = 12 := gsw_n2 e48_18 (by decide)
          have n48_13 : ¬ what = 13 := gsw_n2 e48_18 (by decide)
          have n48_14 : ¬ what = 14 := gsw_n2 e48_18 (by decide)
          have n48_15 : ¬ what = 15 := gsw_n2 e48_18 (by decide)
          have n48_16 : ¬ what = 16 := gsw_n2 e48_18 (by decide)
          have n48_17 : ¬ what = 17 := gsw_n2 e48_18 (by decide)
          refine gx_bipush (v := (-2)) C dX7_count_232 (by decide) ?_
          exact gx_iretR C rfl hr dX7_count_234 (congrArg Value.int ((if_neg (bF h_8)).trans ((if_neg (bF h_32)).trans ((if_neg n48_0).trans ((if_neg n48_1).trans ((if_neg n48_2).trans ((if_neg n48_3).trans ((if_neg n48_4).trans ((if_neg n48_5).trans ((if_neg n48_6).trans ((if_neg n48_7).trans ((if_neg n48_8).trans ((if_neg n48_9).trans ((if_neg n48_10).trans ((if_neg n48_11).trans ((if_neg n48_12).trans ((if_neg n48_13).trans ((if_neg n48_14).trans ((if_neg n48_15).trans ((if_neg n48_16).trans ((if_neg n48_17).trans ((if_pos e48_18).trans (rfl)))))))))))))))))))))).symm)
        · skip
          refine gx_tableIn (off := 174) (tgt := 222) C dX7_count_48 (by rw [sw_48]; decide) (by rw [sw_48]; decide) (by rw [sw_48]; rfl) (by decide) ?_
          have e48_19 : what = 19 := gsw_eq sw_48 (by decide)
          have n48_0 : ¬ what = 0 := gsw_n2 e48_19 (by decide)
          have n48_1 : ¬ what = 1 := gsw_n2 e48_19 (by decide)
          have n48_2 : ¬ what = 2 := gsw_n2 e48_19 (by decide)
          have n48_3 : ¬ what = 3 := gsw_n2 e48_19 (by decide)
          have n48_4 : ¬ what = 4 := gsw_n2 e48_19 (by decide)
          have n48_5 : ¬ what = 5 := gsw_n2 e48_19 (by decide)
          have n48_6 : ¬ what = 6 := gsw_n2 e48_19 (by decide)
          have n48_7 : ¬ what = 7 := gsw_n2 e48_19 (by decide)
          have n48_8 : ¬ what = 8 := gsw_n2 e48_19 (by decide)
          have n48_9 : ¬ what = 9 := gsw_n2 e48_19 (by decide)
          have n48_10 : ¬ what = 10 := gsw_n2 e48_19 (by decide)
          have n48_11 : ¬ what = 11 := gsw_n2 e48_19 (by decide)
          have n48_12 : ¬ what = 12 := gsw_n2 e48_19 (by decide)
          have n48_13 : ¬ what = 13 := gsw_n2 e48_19 (by decide)
          have n48_14 : ¬ what = 14 := gsw_n2 e48_19 (by decide)
          have n48_15 : ¬ what = 15 := gsw_n2 e48_19 (by decide)
          have n48_16 : ¬ what = 16 := gsw_n2 e48_19 (by decide)
          have n48_17 : ¬ what = 17 := gsw_n2 e48_19 (by decide)
          have n48_18 : ¬ what = 18 := gsw_n2 e48_19 (by decide)
          refine gx_aload_n (q := 0) C dX7_count_222 rfl ?_
          refine gx_get C (i := 6) (isMS_in hW 0 (Nat.le_of_ble_eq_true rfl)) (isMS_0 hW) rfl in_X7_count_7 (by decide) fl_X7_count_175 rfl dX7_count_223 ?_
          exact gx_iretR C rfl hr dX7_count_226 (congrArg Value.int ((if_neg (bF h_8)).trans ((if_neg (bF h_32)).trans ((if_neg n48_0).trans ((if_neg n48_1).trans ((if_neg n48_2).trans ((if_neg n48_3).trans ((if_neg n48_4).trans ((if_neg n48_5).trans ((if_neg n48_6).trans ((if_neg n48_7).trans ((if_neg n48_8).trans ((if_neg n48_9).trans ((if_neg n48_10).trans ((if_neg n48_11).trans ((if_neg n48_12).trans ((if_neg n48_13).trans ((if_neg n48_14).trans ((if_neg n48_15).trans ((if_neg n48_16).trans ((if_neg n48_17).trans ((if_neg n48_18).trans ((if_pos e48_19).trans (rfl))))))))))))))))))))))).symm)
        · skip
          refine gx_tableIn (off := 179) (tgt := 227) C dX7_count_48 (by rw [sw_48]; decide) (by rw [sw_48]; decide) (by rw [sw_48]; rfl) (by decide) ?_
          have e48_20 : what = 20 := gsw_eq sw_48 (by decide)
          have n48_0 : ¬ what = 0 := gsw_n2 e48_20 (by decide)
          have n48_1 : ¬ what = 1 := gsw_n2 e48_20 (by decide)
          have n48_2 : ¬ what = 2 := gsw_n2 e48_20 (by decide)
          have n48_3 : ¬ what = 3 := gsw_n2 e48_20 (by decide)
          have n48_4 : ¬ what = 4 := gsw_n2 e48_20 (by decide)
          have n48_5 : ¬ what = 5 := gsw_n2 e48_20 (by decide)
          have n48_6 : ¬ what = 6 := gsw_n2 e48_20 (by decide)
          have n48_7 : ¬ what = 7 := gsw_n2 e48_20 (by decide)
          have n48_8 : ¬ what = 8 := gsw_n2 e48_20 (by decide)
          have n48_9 : ¬ what = 9 := gsw_n2 e48_20 (by decide)
          have n48_10 : ¬ what = 10 := gsw_n2 e48_20 (by decide)
          have n48_11 : ¬ what = 11 := gsw_n2 e48_20 (by decide)
          have n48_12 : ¬ what = 12 := gsw_n2 e48_20 (by decide)
          have n48_13 : ¬ what = 13 := gsw_n2 e48_20 (by decide)
          have n48_14 : ¬ what = 14 := gsw_n2 e48_20 (by decide)
          have n48_15 : ¬ what = 15 := gsw_n2 e48_20 (by decide)
          have n48_16 : ¬ what = 16 := gsw_n2 e48_20 (by decide)
          have n48_17 : ¬ what = 17 := gsw_n2 e48_20 (by decide)
          have n48_18 : ¬ what = 18 := gsw_n2 e48_20 (by decide)
          have n48_19 : ¬ what = 19 := gsw_n2 e48_20 (by decide)
          refine gx_aload_n (q := 0) C dX7_count_227 rfl ?_
          refine gx_get C (i := 2) (isMS_in hW 0 (Nat.le_of_ble_eq_true rfl)) (isMS_0 hW) rfl in_X7_count_7 (by decide) fl_X7_count_30 rfl dX7_count_228 ?_
          exact gx_iretR C rfl hr dX7_count_231 (congrArg Value.int ((if_neg (bF h_8)).trans ((if_neg (bF h_32)).trans ((if_neg n48_0).trans ((if_neg n48_1).trans ((if_neg n48_2).trans ((if_neg n48_3).trans ((if_neg n48_4).trans ((if_neg n48_5).trans ((if_neg n48_6).trans ((if_neg n48_7).trans ((if_neg n48_8).trans ((if_neg n48_9).trans ((if_neg n48_10).trans ((if_neg n48_11).trans ((if_neg n48_12).trans ((if_neg n48_13).trans ((if_neg n48_14).trans ((if_neg n48_15).trans ((if_neg n48_16).trans ((if_neg n48_17).trans ((if_neg n48_18).trans ((if_neg n48_19).trans ((if_pos e48_20).trans (rfl)))))))))))))))))))))))).symm)
    · skip
      have h_32 := bI1.mp c_32
      refine gx_aload_n (q := 0) C dX7_count_35 rfl ?_
      refine gx_get C (i := 0) (isMS_in hW 0 (Nat.le_of_ble_eq_true rfl)) (isMS_0 hW) rfl in_X7_count_7 (by decide) fl_X7_count_7 rfl dX7_count_36 ?_
      refine gx_iconst (v := 2) C dX7_count_39 (by decide) ?_
      refine gx_iload_n (q := 1) C dX7_count_40 rfl ?_
      refine gx_iadd C dX7_count_41 ?_
      refine gx_bipush (v := 15) C dX7_count_42 (by decide) ?_
      refine gx_isub C dX7_count_44 ?_
      obtain ⟨hi1, hi2⟩ := isW_sub (lo := 15) (hi := 18) (b := 2) (by decide) (by decide) (by decide) h_32
      refine gx_ialdN C (isMS_in hW 1 (Nat.le_of_ble_eq_true rfl)) (isMS_a0 hW) hi1 (by omega) (by decide) dX7_count_45 ?_
      exact gx_iretR C rfl hr dX7_count_46 (congrArg Value.int ((if_neg (bF h_8)).trans ((if_pos h_32).trans (rfl))).symm)
  · skip
    have h_8 := bI1.mp c_8
    refine gx_aload_n (q := 0) C dX7_count_11 rfl ?_
    refine gx_get C (i := 0) (isMS_in hW 0 (Nat.le_of_ble_eq_true rfl)) (isMS_0 hW) rfl in_X7_count_7 (by decide) fl_X7_count_7 rfl dX7_count_12 ?_
    refine gx_bipush (v := 11) C dX7_count_15 (by decide) ?_
    refine gx_iload_n (q := 1) C dX7_count_17 rfl ?_
    refine gx_iadd C dX7_count_18 ?_
    refine gx_bipush (v := 11) C dX7_count_19 (by decide) ?_
    refine gx_isub C dX7_count_21 ?_
    obtain ⟨hi1, hi2⟩ := isW_sub (lo := 11) (hi := 14) (b := 11) (by decide) (by decide) (by decide) h_8
    refine gx_ialdN C (isMS_in hW 1 (Nat.le_of_ble_eq_true rfl)) (isMS_a0 hW) hi1 (by omega) (by decide) dX7_count_22 ?_
    exact gx_iretR C rfl hr dX7_count_23 (congrArg Value.int ((if_pos h_8).trans (rfl)).symm)
theorem kdN_X7_why : yX7_why.cls ≠ "java/lang/invoke/MethodHandle" ∧ yX7_why.cls ≠ "java/lang/invoke/VarHandle" ∧ (parseMethodDescriptor yX7_why.desc).map (fun d => d.parameters.length) = some 1 := by decide +kernel
theorem kdV_X7_why : yX7_why.cls = RX7 ∧ yX7_why.cls ≠ "java/lang/invoke/MethodHandle" ∧ yX7_why.cls ≠ "java/lang/invoke/VarHandle" ∧ (parseMethodDescriptor yX7_why.desc).map (fun d => d.parameters.length) = some 1 := ⟨rfl, kdN_X7_why⟩
def vX7_why (y : MS) (q : Int32) : Int32 := (if (vX7_isPot y q) = true then (vX7_whyNot y q (cl q)) else (-1))
abbrev rmX7_why : Room := { frames := 3, cells := 0, slots := 0, locals := 67 }
set_option maxHeartbeats 4000000 in
set_option maxRecDepth 100000 in
theorem k_X7_why (l : Launch) {k : gK} {L : List Nat} {f : Nat → va_E} {o : Nat → Nat} {y : MS} (hW : isMS k L f o y) (hM : mOK y) (q : Int32) : kR l k L f yX7_why wsX7_why rmX7_why [.ref (o 0), .int q] (.int (vX7_why y q)) := by
  refine kR_of (cc := cX7_why) (maxL := 2) (ret := (some .int)) (by decide) rfl (Nat.le_of_ble_eq_true rfl) ?_
  intro p e s m args below meth c C hr
  refine gx_lv [(0, _), (1, _)] [0, 1] rfl ?_
  refine gx_aload_n (q := 0) C dX7_why_0 rfl ?_
  refine gx_iload_n (q := 1) C dX7_why_1 rfl ?_
  refine gx_callR C (k_X7_isPot l hW _) (isMS_in hW 0 (Nat.le_of_ble_eq_true rfl)) (isMS_0 hW) rfl (cwV 1 C.2.2.2.2.1 gX7_why_X7_isPot rfl rfl rfl kdV_X7_isPot ⟨Nat.le_of_ble_eq_true rfl, Nat.le_of_ble_eq_true rfl⟩) rfl rfl (Nat.le_of_ble_eq_true rfl) ⟨Nat.le_of_ble_eq_true rfl, Nat.le_of_ble_eq_true rfl⟩ dX7_why_2 ?_
  refine gx_if_eq (tgt := 16) C dX7_why_5 (by decide) (fun c_5 => ?_) (fun c_5 => ?_)
  · skip
    have h_5 := bI0.mp c_5
    refine gx_iconst (v := (-1)) C dX7_why_16 (by decide) ?_
    exact gx_iretR C rfl hr dX7_why_17 (congrArg Value.int ((if_neg (bF h_5)).trans (rfl)).symm)
  · skip
    have h_5 := bI1.mp c_5
    obtain ⟨n_q, b_q⟩ := mPot hM h_5
    have bb_q := (hM).2
    refine gx_aload_n (q := 0) C dX7_why_8 rfl ?_
    refine gx_iload_n (q := 1) C dX7_why_9 rfl ?_
    refine gx_callR C (k_X7_whyNot l hW hM _ (i := (cl q)) n_q (by omega)) (isMS_in hW 0 (Nat.le_of_ble_eq_true rfl)) (isMS_0 hW) rfl (cwV 1 C.2.2.2.2.1 gX7_why_X7_whyNot rfl rfl rfl kdV_X7_whyNot ⟨Nat.le_of_ble_eq_true rfl, Nat.le_of_ble_eq_true rfl⟩) rfl rfl (Nat.le_of_ble_eq_true rfl) ⟨Nat.le_of_ble_eq_true rfl, Nat.le_of_ble_eq_true rfl⟩ dX7_why_10 ?_
    refine gx_goto (tgt := 17) C dX7_why_13 (by decide) ?_
    exact gx_iretR C rfl hr dX7_why_17 (congrArg Value.int ((if_pos h_5).trans (rfl)).symm)
theorem kdN_X7_dryIn : yX7_dryIn.cls ≠ "java/lang/invoke/MethodHandle" ∧ yX7_dryIn.cls ≠ "java/lang/invoke/VarHandle" ∧ (parseMethodDescriptor yX7_dryIn.desc).map (fun d => d.parameters.length) = some 1 := by decide +kernel
theorem kdV_X7_dryIn : yX7_dryIn.cls = RX7 ∧ yX7_dryIn.cls ≠ "java/lang/invoke/MethodHandle" ∧ yX7_dryIn.cls ≠ "java/lang/invoke/VarHandle" ∧ (parseMethodDescriptor yX7_dryIn.desc).map (fun d => d.parameters.length) = some 1 := ⟨rfl, kdN_X7_dryIn⟩
def vX7_dryIn (y : MS) (q : Int32) : Int32 := (if (vX7_isPot y q) = true then (if (y.1 0 (35 + 9 * (cl q) + 3)) = 0 then (if (y.1 0 (35 + 9 * (cl q) + 4)) = 0 then (if 0 < (vX7_toDry y q (cl q)) then (if 8 ≤ (y.1 0 (35 + 9 * (cl q) + 5)) then (vX7_toDry y q (cl q)) else (((vX7_toDry y q (cl q)) + 1) / 2)) else 0) else (-5)) else 0) else (-1))
abbrev rmX7_dryIn : Room := { frames := 2, cells := 0, slots := 0, locals := 43 }
set_option maxHeartbeats 4000000 in
set_option maxRecDepth 100000 in
theorem k_X7_dryIn (l : Launch) {k : gK} {L : List Nat} {f : Nat → va_E} {o : Nat → Nat} {y : MS} (hW : isMS k L f o y) (hM : mOK y) (q : Int32) : kR l k L f yX7_dryIn wsX7_dryIn rmX7_dryIn [.ref (o 0), .int q] (.int (vX7_dryIn y q)) := by
  refine kR_of (cc := cX7_dryIn) (maxL := 3) (ret := (some .int)) (by decide) rfl (Nat.le_of_ble_eq_true rfl) ?_
  intro p e s m args below meth c C hr
  refine gx_lv [(0, _), (1, _)] [0, 1] rfl ?_
  refine gx_aload_n (q := 0) C dX7_dryIn_0 rfl ?_
  refine gx_iload_n (q := 1) C dX7_dryIn_1 rfl ?_
  refine gx_callR C (k_X7_isPot l hW _) (isMS_in hW 0 (Nat.le_of_ble_eq_true rfl)) (isMS_0 hW) rfl (cwV 1 C.2.2.2.2.1 gX7_dryIn_X7_isPot rfl rfl rfl kdV_X7_isPot ⟨Nat.le_of_ble_eq_true rfl, Nat.le_of_ble_eq_true rfl⟩) rfl rfl (Nat.le_of_ble_eq_true rfl) ⟨Nat.le_of_ble_eq_true rfl, Nat.le_of_ble_eq_true rfl⟩ dX7_dryIn_2 ?_
  refine gx_if_ne (tgt := 10) C dX7_dryIn_5 (by decide) (fun c_5 => ?_) (fun c_5 => ?_)
  · skip
    have h_5 := bI1.mp c_5
    obtain ⟨n_q, b_q⟩ := mPot hM h_5
    have bb_q := (hM).2
    refine gx_aload_n (q := 0) C dX7_dryIn_10 rfl ?_
    refine gx_iload_n (q := 1) C dX7_dryIn_11 rfl ?_
    refine gx_iconst (v := 3) C dX7_dryIn_12 (by decide) ?_
    refine gx_callR C (k_X7_pot l hW _ _ (i := (cl q)) n_q (by omega) (j := 3) (nLit 3) (by omega)) (isMS_in hW 0 (Nat.le_of_ble_eq_true rfl)) (isMS_0 hW) rfl (cwV 2 C.2.2.2.2.1 gX7_dryIn_X7_pot rfl rfl rfl kdV_X7_pot ⟨Nat.le_of_ble_eq_true rfl, Nat.le_of_ble_eq_true rfl⟩) rfl rfl (Nat.le_of_ble_eq_true rfl) ⟨Nat.le_of_ble_eq_true rfl, Nat.le_of_ble_eq_true rfl⟩ dX7_dryIn_13 ?_
    refine gx_if_eq (tgt := 21) C dX7_dryIn_16 (by decide) (fun c_16 => ?_) (fun c_16 => ?_)
    · skip
      refine gx_aload_n (q := 0) C dX7_dryIn_21 rfl ?_
      refine gx_iload_n (q := 1) C dX7_dryIn_22 rfl ?_
      refine gx_iconst (v := 4) C dX7_dryIn_23 (by decide) ?_
      refine gx_callR C (k_X7_pot l hW _ _ (i := (cl q)) n_q (by omega) (j := 4) (nLit 4) (by omega)) (isMS_in hW 0 (Nat.le_of_ble_eq_true rfl)) (isMS_0 hW) rfl (cwV 2 C.2.2.2.2.1 gX7_dryIn_X7_pot rfl rfl rfl kdV_X7_pot ⟨Nat.le_of_ble_eq_true rfl, Nat.le_of_ble_eq_true rfl⟩) rfl rfl (Nat.le_of_ble_eq_true rfl) ⟨Nat.le_of_ble_eq_true rfl, Nat.le_of_ble_eq_true rfl⟩ dX7_dryIn_24 ?_
      refine gx_if_eq (tgt := 33) C dX7_dryIn_27 (by decide) (fun c_27 => ?_) (fun c_27 => ?_)
      · skip
        refine gx_aload_n (q := 0) C dX7_dryIn_33 rfl ?_
        refine gx_iload_n (q := 1) C dX7_dryIn_34 rfl ?_
        refine gx_callR C (k_X7_toDry l hW _ (i := (cl q)) n_q (by omega)) (isMS_in hW 0 (Nat.le_of_ble_eq_true rfl)) (isMS_0 hW) rfl (cwV 1 C.2.2.2.2.1 gX7_dryIn_X7_toDry rfl rfl rfl kdV_X7_toDry ⟨Nat.le_of_ble_eq_true rfl, Nat.le_of_ble_eq_true rfl⟩) rfl rfl (Nat.le_of_ble_eq_true rfl) ⟨Nat.le_of_ble_eq_true rfl, Nat.le_of_ble_eq_true rfl⟩ dX7_dryIn_35 ?_
        refine gx_istore_n C (i := 2) [(2, _), (0, _), (1, _)] dX7_dryIn_38 rfl (by decide) rfl ?_
        refine gx_iload_n (q := 0) C dX7_dryIn_39 rfl ?_
        refine gx_if_gt (tgt := 47) C dX7_dryIn_40 (by decide) (fun c_40 => ?_) (fun c_40 => ?_)
        · skip
          refine gx_aload_n (q := 1) C dX7_dryIn_47 rfl ?_
          refine gx_iload_n (q := 2) C dX7_dryIn_48 rfl ?_
          refine gx_iconst (v := 5) C dX7_dryIn_49 (by decide) ?_
          refine gx_callR C (k_X7_pot l hW _ _ (i := (cl q)) n_q (by omega) (j := 5) (nLit 5) (by omega)) (isMS_in hW 0 (Nat.le_of_ble_eq_true rfl)) (isMS_0 hW) rfl (cwV 2 C.2.2.2.2.1 gX7_dryIn_X7_pot rfl rfl rfl kdV_X7_pot ⟨Nat.le_of_ble_eq_true rfl, Nat.le_of_ble_eq_true rfl⟩) rfl rfl (Nat.le_of_ble_eq_true rfl) ⟨Nat.le_of_ble_eq_true rfl, Nat.le_of_ble_eq_true rfl⟩ dX7_dryIn_50 ?_
          refine gx_bipush (v := 8) C dX7_dryIn_53 (by decide) ?_
          refine gx_icmp_ge (tgt := 66) C dX7_dryIn_55 (by decide) (fun c_55 => ?_) (fun c_55 => ?_)
          · skip
            refine gx_iload_n (q := 0) C dX7_dryIn_66 rfl ?_
            exact gx_iretR C rfl hr dX7_dryIn_67 (congrArg Value.int ((if_pos h_5).trans ((if_pos c_16).trans ((if_pos c_27).trans ((if_pos c_40).trans ((if_pos c_55).trans (rfl)))))).symm)
          · skip
            refine gx_iload_n (q := 0) C dX7_dryIn_58 rfl ?_
            refine gx_iconst (v := 1) C dX7_dryIn_59 (by decide) ?_
            refine gx_iadd C dX7_dryIn_60 ?_
            refine gx_iconst (v := 2) C dX7_dryIn_61 (by decide) ?_
            refine gx_idiv C (by decide) dX7_dryIn_62 ?_
            refine gx_goto (tgt := 67) C dX7_dryIn_63 (by decide) ?_
            exact gx_iretR C rfl hr dX7_dryIn_67 (congrArg Value.int ((if_pos h_5).trans ((if_pos c_16).trans ((if_pos c_27).trans ((if_pos c_40).trans ((if_neg c_55).trans (rfl)))))).symm)
        · skip
          refine gx_iconst (v := 0) C dX7_dryIn_43 (by decide) ?_
          refine gx_goto (tgt := 67) C dX7_dryIn_44 (by decide) ?_
          exact gx_iretR C rfl hr dX7_dryIn_67 (congrArg Value.int ((if_pos h_5).trans ((if_pos c_16).trans ((if_pos c_27).trans ((if_neg c_40).trans (rfl))))).symm)
      · skip
        refine gx_bipush (v := (-5)) C dX7_dryIn_30 (by decide) ?_
        exact gx_iretR C rfl hr dX7_dryIn_32 (congrArg Value.int ((if_pos h_5).trans ((if_pos c_16).trans ((if_neg c_27).trans (rfl)))).symm)
    · skip
      refine gx_iconst (v := 0) C dX7_dryIn_19 (by decide) ?_
      exact gx_iretR C rfl hr dX7_dryIn_20 (congrArg Value.int ((if_pos h_5).trans ((if_neg c_16).trans (rfl))).symm)
  · skip
    have h_5 := bI0.mp c_5
    refine gx_iconst (v := (-1)) C dX7_dryIn_8 (by decide) ?_
    exact gx_iretR C rfl hr dX7_dryIn_9 (congrArg Value.int ((if_neg (bF h_5)).trans (rfl)).symm)
theorem kdN_X7_ifFired : yX7_ifFired.cls ≠ "java/lang/invoke/MethodHandle" ∧ yX7_ifFired.cls ≠ "java/lang/invoke/VarHandle" ∧ (parseMethodDescriptor yX7_ifFired.desc).map (fun d => d.parameters.length) = some 2 := by decide +kernel
theorem kdV_X7_ifFired : yX7_ifFired.cls = RX7 ∧ yX7_ifFired.cls ≠ "java/lang/invoke/MethodHandle" ∧ yX7_ifFired.cls ≠ "java/lang/invoke/VarHandle" ∧ (parseMethodDescriptor yX7_ifFired.desc).map (fun d => d.parameters.length) = some 2 := ⟨rfl, kdN_X7_ifFired⟩
def vX7_ifFired (y : MS) (heat : Int32) (what : Int32) : Int32 := (if (isW heat 80 140) = true then (if (isW what 0 3) = true then (if what = 0 then (zFiredTo y heat 4) else (if what = 1 then (zFiredTo y heat 1) else (if what = 2 then (zFiredTo y heat 3) else ((((zPotsAt y 1) &&& ((zFiredTo y heat 4) ^^^ (-1))) &&& ((zFiredTo y heat 1) ^^^ (-1))) &&& ((zFiredTo y heat 3) ^^^ (-1)))))) else (-2)) else (-2))
abbrev rmX7_ifFired : Room := { frames := 3, cells := 0, slots := 0, locals := 71 }
set_option maxHeartbeats 4000000 in
set_option maxRecDepth 100000 in
theorem k_X7_ifFired (l : Launch) {k : gK} {L : List Nat} {f : Nat → va_E} {o : Nat → Nat} {y : MS} (hW : isMS k L f o y) (hM : mOK y) (heat : Int32) (what : Int32) : kR l k L f yX7_ifFired wsX7_ifFired rmX7_ifFired [.ref (o 0), .int heat, .int what] (.int (vX7_ifFired y heat what)) := by
  refine kR_of (cc := cX7_ifFired) (maxL := 6) (ret := (some .int)) (by decide) rfl (Nat.le_of_ble_eq_true rfl) ?_
  intro p e s m args below meth c C hr
  refine gx_lv [(0, _), (1, _), (2, _)] [0, 1, 2] rfl ?_
  refine gx_iload_n (q := 1) C dX7_ifFired_0 rfl ?_
  refine gx_bipush (v := 80) C dX7_ifFired_1 (by decide) ?_
  refine gx_sipush (v := 140) C dX7_ifFired_3 (by decide) ?_
  refine gx_callRS C (k_X7_in l (k := k) (L := L) _ _ _) (va_cwS 3 C.2.2.2.2.1 gX7_ifFired_X7_in rfl rfl rfl kdN_X7_in ⟨Nat.le_of_ble_eq_true rfl, Nat.le_of_ble_eq_true rfl⟩) rfl rfl (Nat.le_of_ble_eq_true rfl) ⟨Nat.le_of_ble_eq_true rfl, Nat.le_of_ble_eq_true rfl⟩ dX7_ifFired_6 ?_
  refine gx_if_eq (tgt := 21) C dX7_ifFired_9 (by decide) (fun c_9 => ?_) (fun c_9 => ?_)
  · skip
    have h_9 := bI0.mp c_9
    refine gx_bipush (v := (-2)) C dX7_ifFired_21 (by decide) ?_
    exact gx_iretR C rfl hr dX7_ifFired_23 (congrArg Value.int ((if_neg (bF h_9)).trans (rfl)).symm)
  · skip
    have h_9 := bI1.mp c_9
    refine gx_iload_n (q := 2) C dX7_ifFired_12 rfl ?_
    refine gx_iconst (v := 0) C dX7_ifFired_13 (by decide) ?_
    refine gx_iconst (v := 3) C dX7_ifFired_14 (by decide) ?_
    refine gx_callRS C (k_X7_in l (k := k) (L := L) _ _ _) (va_cwS 3 C.2.2.2.2.1 gX7_ifFired_X7_in rfl rfl rfl kdN_X7_in ⟨Nat.le_of_ble_eq_true rfl, Nat.le_of_ble_eq_true rfl⟩) rfl rfl (Nat.le_of_ble_eq_true rfl) ⟨Nat.le_of_ble_eq_true rfl, Nat.le_of_ble_eq_true rfl⟩ dX7_ifFired_15 ?_
    refine gx_if_ne (tgt := 24) C dX7_ifFired_18 (by decide) (fun c_18 => ?_) (fun c_18 => ?_)
    · skip
      have h_18 := bI1.mp c_18
      refine gx_aload_n (q := 0) C dX7_ifFired_24 rfl ?_
      refine gx_iload_n (q := 1) C dX7_ifFired_25 rfl ?_
      refine gx_iconst (v := 4) C dX7_ifFired_26 (by decide) ?_
      refine gx_iconst (v := 1) C dX7_ifFired_27 (by decide) ?_
      refine gx_callR C (k_X7_firedTo l hW hM _ _) (isMS_in hW 0 (Nat.le_of_ble_eq_true rfl)) (isMS_0 hW) rfl (cwV 3 C.2.2.2.2.1 gX7_ifFired_X7_firedTo rfl rfl rfl kdV_X7_firedTo ⟨Nat.le_of_ble_eq_true rfl, Nat.le_of_ble_eq_true rfl⟩) rfl rfl (Nat.le_of_ble_eq_true rfl) ⟨Nat.le_of_ble_eq_true rfl, Nat.le_of_ble_eq_true rfl⟩ dX7_ifFired_28 ?_
      refine gx_istore_n C (i := 3) [(3, _), (0, _), (1, _), (2, _)] dX7_ifFired_31 rfl (by decide) rfl ?_
      refine gx_aload_n (q := 1) C dX7_ifFired_32 rfl ?_
      refine gx_iload_n (q := 2) C dX7_ifFired_33 rfl ?_
      refine gx_iconst (v := 1) C dX7_ifFired_34 (by decide) ?_
      refine gx_iconst (v := 1) C dX7_ifFired_35 (by decide) ?_
      refine gx_callR C (k_X7_firedTo l hW hM _ _) (isMS_in hW 0 (Nat.le_of_ble_eq_true rfl)) (isMS_0 hW) rfl (cwV 3 C.2.2.2.2.1 gX7_ifFired_X7_firedTo rfl rfl rfl kdV_X7_firedTo ⟨Nat.le_of_ble_eq_true rfl, Nat.le_of_ble_eq_true rfl⟩) rfl rfl (Nat.le_of_ble_eq_true rfl) ⟨Nat.le_of_ble_eq_true rfl, Nat.le_of_ble_eq_true rfl⟩ dX7_ifFired_36 ?_
      refine gx_istore C [(4, _), (3, _), (0, _), (1, _), (2, _)] dX7_ifFired_39 (by decide) rfl ?_
      refine gx_aload_n (q := 2) C dX7_ifFired_41 rfl ?_
      refine gx_iload_n (q := 3) C dX7_ifFired_42 rfl ?_
      refine gx_iconst (v := 3) C dX7_ifFired_43 (by decide) ?_
      refine gx_iconst (v := 1) C dX7_ifFired_44 (by decide) ?_
      refine gx_callR C (k_X7_firedTo l hW hM _ _) (isMS_in hW 0 (Nat.le_of_ble_eq_true rfl)) (isMS_0 hW) rfl (cwV 3 C.2.2.2.2.1 gX7_ifFired_X7_firedTo rfl rfl rfl kdV_X7_firedTo ⟨Nat.le_of_ble_eq_true rfl, Nat.le_of_ble_eq_true rfl⟩) rfl rfl (Nat.le_of_ble_eq_true rfl) ⟨Nat.le_of_ble_eq_true rfl, Nat.le_of_ble_eq_true rfl⟩ dX7_ifFired_45 ?_
      refine gx_istore C [(5, _), (4, _), (3, _), (0, _), (1, _), (2, _)] dX7_ifFired_48 (by decide) rfl ?_
      refine gx_iload_n (q := 5) C dX7_ifFired_50 rfl ?_
      refine gx_if_ne (tgt := 58) C dX7_ifFired_51 (by decide) (fun c_51 => ?_) (fun c_51 => ?_)
      · skip
        refine gx_iload_n (q := 5) C dX7_ifFired_58 rfl ?_
        refine gx_iconst (v := 1) C dX7_ifFired_59 (by decide) ?_
        refine gx_icmp_ne (tgt := 68) C dX7_ifFired_60 (by decide) (fun c_60 => ?_) (fun c_60 => ?_)
        · skip
          refine gx_iload_n (q := 5) C dX7_ifFired_68 rfl ?_
          refine gx_iconst (v := 2) C dX7_ifFired_69 (by decide) ?_
          refine gx_icmp_ne (tgt := 78) C dX7_ifFired_70 (by decide) (fun c_70 => ?_) (fun c_70 => ?_)
          · skip
            refine gx_aload_n (q := 3) C dX7_ifFired_78 rfl ?_
            refine gx_iconst (v := 1) C dX7_ifFired_79 (by decide) ?_
            refine gx_callR C (k_X7_potsAt l hW hM _) (isMS_in hW 0 (Nat.le_of_ble_eq_true rfl)) (isMS_0 hW) rfl (cwV 1 C.2.2.2.2.1 gX7_ifFired_X7_potsAt rfl rfl rfl kdV_X7_potsAt ⟨Nat.le_of_ble_eq_true rfl, Nat.le_of_ble_eq_true rfl⟩) rfl rfl (Nat.le_of_ble_eq_true rfl) ⟨Nat.le_of_ble_eq_true rfl, Nat.le_of_ble_eq_true rfl⟩ dX7_ifFired_80 ?_
            refine gx_iload_n (q := 2) C dX7_ifFired_83 rfl ?_
            refine gx_iconst (v := (-1)) C dX7_ifFired_84 (by decide) ?_
            refine gx_ixor C dX7_ifFired_85 ?_
            refine gx_iand C dX7_ifFired_86 ?_
            refine gx_iload (q := 1) C dX7_ifFired_87 rfl ?_
            refine gx_iconst (v := (-1)) C dX7_ifFired_89 (by decide) ?_
            refine gx_ixor C dX7_ifFired_90 ?_
            refine gx_iand C dX7_ifFired_91 ?_
            refine gx_iload (q := 0) C dX7_ifFired_92 rfl ?_
            refine gx_iconst (v := (-1)) C dX7_ifFired_94 (by decide) ?_
            refine gx_ixor C dX7_ifFired_95 ?_
            refine gx_iand C dX7_ifFired_96 ?_
            exact gx_iretR C rfl hr dX7_ifFired_97 (congrArg Value.int ((if_pos h_9).trans ((if_pos h_18).trans ((if_neg c_51).trans ((if_neg c_60).trans ((if_neg c_70).trans (rfl)))))).symm)
          · skip
            refine gx_iload (q := 0) C dX7_ifFired_73 rfl ?_
            refine gx_goto (tgt := 97) C dX7_ifFired_75 (by decide) ?_
            exact gx_iretR C rfl hr dX7_ifFired_97 (congrArg Value.int ((if_pos h_9).trans ((if_pos h_18).trans ((if_neg c_51).trans ((if_neg c_60).trans ((if_pos c_70).trans (rfl)))))).symm)
        · skip
          refine gx_iload (q := 1) C dX7_ifFired_63 rfl ?_
          refine gx_goto (tgt := 97) C dX7_ifFired_65 (by decide) ?_
          exact gx_iretR C rfl hr dX7_ifFired_97 (congrArg Value.int ((if_pos h_9).trans ((if_pos h_18).trans ((if_neg c_51).trans ((if_pos c_60).trans (rfl))))).symm)
      · skip
        refine gx_iload_n (q := 2) C dX7_ifFired_54 rfl ?_
        refine gx_goto (tgt := 97) C dX7_ifFired_55 (by decide) ?_
        exact gx_iretR C rfl hr dX7_ifFired_97 (congrArg Value.int ((if_pos h_9).trans ((if_pos h_18).trans ((if_pos c_51).trans (rfl)))).symm)
    · skip
      have h_18 := bI0.mp c_18
      refine gx_bipush (v := (-2)) C dX7_ifFired_21 (by decide) ?_
      exact gx_iretR C rfl hr dX7_ifFired_23 (congrArg Value.int ((if_pos h_9).trans ((if_neg (bF h_18)).trans (rfl))).symm)
theorem kdN_X7_comeOn : yX7_comeOn.cls ≠ "java/lang/invoke/MethodHandle" ∧ yX7_comeOn.cls ≠ "java/lang/invoke/VarHandle" ∧ (parseMethodDescriptor yX7_comeOn.desc).map (fun d => d.parameters.length) = some 1 := by decide +kernel
theorem kdV_X7_comeOn : yX7_comeOn.cls = RX7 ∧ yX7_comeOn.cls ≠ "java/lang/invoke/MethodHandle" ∧ yX7_comeOn.cls ≠ "java/lang/invoke/VarHandle" ∧ (parseMethodDescriptor yX7_comeOn.desc).map (fun d => d.parameters.length) = some 1 := ⟨rfl, kdN_X7_comeOn⟩
def zCoP (y : MS) (heat : Int32) : Nat → Bool := fun i => decide (y.1 0 (35 + 9 * i + 4) = 1) && decide (vX7_fired y (nI i) heat i = y.1 0 (35 + 9 * i + 3) + 1)
def zComeOn (y : MS) (heat : Int32) : Int32 := cnI (zCoP y heat) (mN y)
theorem in_X7_comeOn_7 : ∀ w ∈ u_ws RX7 TX7 13, w ∈ wsX7_comeOn := by decide +kernel
theorem fl_X7_comeOn_7 : Cond.fieldLink RX7 7 (TX7 0).1 (TX7 0).2.1 (TX7 0).2.2.1 ∈ wsX7_comeOn := by decide +kernel
abbrev rmX7_comeOn : Room := { frames := 2, cells := 0, slots := 0, locals := 45 }
set_option maxHeartbeats 4000000 in
set_option maxRecDepth 100000 in
theorem k_X7_comeOn (l : Launch) {k : gK} {L : List Nat} {f : Nat → va_E} {o : Nat → Nat} {y : MS} (hW : isMS k L f o y) (hM : mOK y) (heat : Int32) : kR l k L f yX7_comeOn wsX7_comeOn rmX7_comeOn [.ref (o 0), .int heat] (.int (zComeOn y heat)) := by
  refine kR_of (cc := cX7_comeOn) (maxL := 4) (ret := (some .int)) (by decide) rfl (Nat.le_of_ble_eq_true rfl) ?_
  intro p e s m args below meth c C hr
  refine gx_lv [(0, _), (1, _)] [0, 1] rfl ?_
  refine gx_iconst (v := 0) C dX7_comeOn_0 (by decide) ?_
  refine gx_istore_n C (i := 2) [(2, _), (0, _), (1, _)] dX7_comeOn_1 rfl (by decide) rfl ?_
  refine gx_iconst (v := 0) C dX7_comeOn_2 (by decide) ?_
  refine gx_istore_n C (i := 3) [(3, _), (2, _), (0, _), (1, _)] dX7_comeOn_3 rfl (by decide) rfl ?_
  refine gx_loop (σ := Nat) (fun i => f) (fun i => [(0, .ref (o 0)), (1, .int heat), (2, .int (cnI (zCoP y heat) i)), (3, .int (nI i))]) (fun i => i ≤ mN y) (fun i => mN y - i) 0 [2, 3, 1, 0] rfl rfl ?_ ?_
  · exact Nat.zero_le _
  intro i hI ih
  try dsimp only at hI ih ⊢
  have h20 := hM.2
  refine gx_iload_n (q := 3) C dX7_comeOn_4 rfl ?_
  refine gx_aload_n (q := 0) C dX7_comeOn_5 rfl ?_
  refine gx_get C (i := 0) (isMS_in hW 0 (Nat.le_of_ble_eq_true rfl)) (isMS_0 hW) rfl in_X7_comeOn_7 (by decide) fl_X7_comeOn_7 rfl dX7_comeOn_6 ?_
  refine gx_bipush (v := 7) C dX7_comeOn_9 (by decide) ?_
  refine gx_ialdN C (isMS_in hW 1 (Nat.le_of_ble_eq_true rfl)) (isMS_a0 hW) (nLit 7) (by omega) (by decide) dX7_comeOn_11 ?_
  refine gx_top (nI (mN y)) hM.1 ?_
  refine gx_icmp_ge (tgt := 56) C dX7_comeOn_12 (by decide) (fun c_12 => ?_) (fun c_12 => ?_)
  · skip
    have hb := (nI_leI (by omega) (by omega)).mp c_12
    refine gx_iload_n (q := 2) C dX7_comeOn_56 rfl ?_
    exact gx_iretR C rfl hr dX7_comeOn_57 (congrArg Value.int (by rw [show i = mN y by omega]; rfl))
  · skip
    have hlt : i < mN y := Nat.lt_of_not_le (fun z => c_12 ((nI_leI (by omega) (by omega)).mpr z))
    refine gx_iload_n (q := 2) C dX7_comeOn_15 rfl ?_
    refine gx_aload_n (q := 0) C dX7_comeOn_16 rfl ?_
    refine gx_iload_n (q := 3) C dX7_comeOn_17 rfl ?_
    refine gx_iconst (v := 4) C dX7_comeOn_18 (by decide) ?_
    refine gx_callR C (k_X7_pot l hW _ _ (i := i) rfl (by omega) (j := 4) (nLit 4) (by omega)) (isMS_in hW 0 (Nat.le_of_ble_eq_true rfl)) (isMS_0 hW) rfl (cwV 2 C.2.2.2.2.1 gX7_comeOn_X7_pot rfl rfl rfl kdV_X7_pot ⟨Nat.le_of_ble_eq_true rfl, Nat.le_of_ble_eq_true rfl⟩) rfl rfl (Nat.le_of_ble_eq_true rfl) ⟨Nat.le_of_ble_eq_true rfl, Nat.le_of_ble_eq_true rfl⟩ dX7_comeOn_19 ?_
    refine gx_iconst (v := 1) C dX7_comeOn_22 (by decide) ?_
    refine gx_icmp_ne (tgt := 47) C dX7_comeOn_23 (by decide) (fun c_23 => ?_) (fun c_23 => ?_)
    · skip
      refine gx_iconst (v := 0) C dX7_comeOn_47 (by decide) ?_
      refine gx_iadd C dX7_comeOn_48 ?_
      refine gx_istore_n C (i := 2) [(2, _), (0, _), (1, _), (3, _)] dX7_comeOn_49 rfl (by decide) rfl ?_
      refine gx_iinc C (q := 3) (v := nI (i + 1)) [(3, _), (2, _), (0, _), (1, _)] dX7_comeOn_50 rfl (nI_inc i) (by decide) rfl ?_
      refine gx_goto (tgt := 4) C dX7_comeOn_53 (by decide) ?_
      exact gx_back [2, 3, 1, 0] (ih (i + 1) (by omega) (by omega)) rfl (by rw [cnI_f (P := zCoP y heat) (by simp [zCoP, c_23]), add0]; rfl)
    · skip
      refine gx_aload_n (q := 0) C dX7_comeOn_26 rfl ?_
      refine gx_iload_n (q := 3) C dX7_comeOn_27 rfl ?_
      refine gx_iload_n (q := 1) C dX7_comeOn_28 rfl ?_
      refine gx_callR C (k_X7_fired l hW _ _ (i := i) rfl (by omega)) (isMS_in hW 0 (Nat.le_of_ble_eq_true rfl)) (isMS_0 hW) rfl (cwV 2 C.2.2.2.2.1 gX7_comeOn_X7_fired rfl rfl rfl kdV_X7_fired ⟨Nat.le_of_ble_eq_true rfl, Nat.le_of_ble_eq_true rfl⟩) rfl rfl (Nat.le_of_ble_eq_true rfl) ⟨Nat.le_of_ble_eq_true rfl, Nat.le_of_ble_eq_true rfl⟩ dX7_comeOn_29 ?_
      refine gx_aload_n (q := 0) C dX7_comeOn_32 rfl ?_
      refine gx_iload_n (q := 3) C dX7_comeOn_33 rfl ?_
      refine gx_iconst (v := 3) C dX7_comeOn_34 (by decide) ?_
      refine gx_callR C (k_X7_pot l hW _ _ (i := i) rfl (by omega) (j := 3) (nLit 3) (by omega)) (isMS_in hW 0 (Nat.le_of_ble_eq_true rfl)) (isMS_0 hW) rfl (cwV 2 C.2.2.2.2.1 gX7_comeOn_X7_pot rfl rfl rfl kdV_X7_pot ⟨Nat.le_of_ble_eq_true rfl, Nat.le_of_ble_eq_true rfl⟩) rfl rfl (Nat.le_of_ble_eq_true rfl) ⟨Nat.le_of_ble_eq_true rfl, Nat.le_of_ble_eq_true rfl⟩ dX7_comeOn_35 ?_
      refine gx_iconst (v := 1) C dX7_comeOn_38 (by decide) ?_
      refine gx_iadd C dX7_comeOn_39 ?_
      refine gx_icmp_ne (tgt := 47) C dX7_comeOn_40 (by decide) (fun c_40 => ?_) (fun c_40 => ?_)
      · skip
        refine gx_iconst (v := 0) C dX7_comeOn_47 (by decide) ?_
        refine gx_iadd C dX7_comeOn_48 ?_
        refine gx_istore_n C (i := 2) [(2, _), (0, _), (1, _), (3, _)] dX7_comeOn_49 rfl (by decide) rfl ?_
        refine gx_iinc C (q := 3) (v := nI (i + 1)) [(3, _), (2, _), (0, _), (1, _)] dX7_comeOn_50 rfl (nI_inc i) (by decide) rfl ?_
        refine gx_goto (tgt := 4) C dX7_comeOn_53 (by decide) ?_
        exact gx_back [2, 3, 1, 0] (ih (i + 1) (by omega) (by omega)) rfl (by rw [cnI_f (P := zCoP y heat) (by simp [zCoP, c_23, c_40]), add0]; rfl)
      · skip
        refine gx_iconst (v := 1) C dX7_comeOn_43 (by decide) ?_
        refine gx_goto (tgt := 48) C dX7_comeOn_44 (by decide) ?_
        refine gx_iadd C dX7_comeOn_48 ?_
        refine gx_istore_n C (i := 2) [(2, _), (0, _), (1, _), (3, _)] dX7_comeOn_49 rfl (by decide) rfl ?_
        refine gx_iinc C (q := 3) (v := nI (i + 1)) [(3, _), (2, _), (0, _), (1, _)] dX7_comeOn_50 rfl (nI_inc i) (by decide) rfl ?_
        refine gx_goto (tgt := 4) C dX7_comeOn_53 (by decide) ?_
        exact gx_back [2, 3, 1, 0] (ih (i + 1) (by omega) (by omega)) rfl (by rw [cnI_t (P := zCoP y heat) (by simp [zCoP, c_23, c_40])]; rfl)
theorem kdN_X7_bestHeat : yX7_bestHeat.cls ≠ "java/lang/invoke/MethodHandle" ∧ yX7_bestHeat.cls ≠ "java/lang/invoke/VarHandle" ∧ (parseMethodDescriptor yX7_bestHeat.desc).map (fun d => d.parameters.length) = some 0 := by decide +kernel
theorem kdV_X7_bestHeat : yX7_bestHeat.cls = RX7 ∧ yX7_bestHeat.cls ≠ "java/lang/invoke/MethodHandle" ∧ yX7_bestHeat.cls ≠ "java/lang/invoke/VarHandle" ∧ (parseMethodDescriptor yX7_bestHeat.desc).map (fun d => d.parameters.length) = some 0 := ⟨rfl, kdN_X7_bestHeat⟩
def zBh (y : MS) : Nat → Int32 × Int32 × Int32
  | 0 => (-6, 0, 0)
  | i + 1 =>
    if (zBh y i).1 < 0 then (nI (80 + i), zComeOn y (nI (80 + i)), oneN (zFiredTo y (nI (80 + i)) 4) 20)
    else if (zBh y i).2.1 < zComeOn y (nI (80 + i)) then (nI (80 + i), zComeOn y (nI (80 + i)), oneN (zFiredTo y (nI (80 + i)) 4) 20)
    else if zComeOn y (nI (80 + i)) = (zBh y i).2.1 then (if (zBh y i).2.2 ≤ oneN (zFiredTo y (nI (80 + i)) 4) 20 then zBh y i else (nI (80 + i), zComeOn y (nI (80 + i)), oneN (zFiredTo y (nI (80 + i)) 4) 20))
    else zBh y i
def zBestHeat (y : MS) : Int32 := if zPotsAt y 1 = 0 then -6 else (zBh y 61).1
abbrev rmX7_bestHeat : Room := { frames := 3, cells := 0, slots := 0, locals := 71 }
set_option maxHeartbeats 4000000 in
set_option maxRecDepth 100000 in
theorem k_X7_bestHeat (l : Launch) {k : gK} {L : List Nat} {f : Nat → va_E} {o : Nat → Nat} {y : MS} (hW : isMS k L f o y) (hM : mOK y)  : kR l k L f yX7_bestHeat wsX7_bestHeat rmX7_bestHeat [.ref (o 0)] (.int (zBestHeat y)) := by
  refine kR_of (cc := cX7_bestHeat) (maxL := 7) (ret := (some .int)) (by decide) rfl (Nat.le_of_ble_eq_true rfl) ?_
  intro p e s m args below meth c C hr
  refine gx_lv [(0, _)] [0] rfl ?_
  refine gx_bipush (v := (-6)) C dX7_bestHeat_0 (by decide) ?_
  refine gx_istore_n C (i := 1) [(1, _), (0, _)] dX7_bestHeat_2 rfl (by decide) rfl ?_
  refine gx_iconst (v := 0) C dX7_bestHeat_3 (by decide) ?_
  refine gx_istore_n C (i := 2) [(2, _), (1, _), (0, _)] dX7_bestHeat_4 rfl (by decide) rfl ?_
  refine gx_iconst (v := 0) C dX7_bestHeat_5 (by decide) ?_
  refine gx_istore_n C (i := 3) [(3, _), (2, _), (1, _), (0, _)] dX7_bestHeat_6 rfl (by decide) rfl ?_
  refine gx_bipush (v := 80) C dX7_bestHeat_7 (by decide) ?_
  refine gx_istore C [(4, _), (3, _), (2, _), (1, _), (0, _)] dX7_bestHeat_9 (by decide) rfl ?_
  refine gx_loop (σ := Nat) (fun i => f) (fun i => [(0, .ref (o 0)), (1, .int (zBh y i).1), (2, .int (zBh y i).2.1), (3, .int (zBh y i).2.2), (4, .int (nI (80 + i)))]) (fun i => i ≤ 61 ∧ (0 < i → ¬ zPotsAt y 1 = 0)) (fun i => 61 - i) 0 [4, 3, 2, 1, 0] rfl rfl ?_ ?_
  · exact ⟨by decide, fun h => absurd h (by decide)⟩
  intro i hI ih
  try dsimp only at hI ih ⊢
  refine gx_iload (q := 4) C dX7_bestHeat_11 rfl ?_
  refine gx_sipush (v := 140) C dX7_bestHeat_13 (by decide) ?_
  refine gx_icmp_gt (tgt := 85) C dX7_bestHeat_16 (by decide) (fun c_16 => ?_) (fun c_16 => ?_)
  · skip
    have hb : i = 61 := by have := (nI_ltI (a := 140) (b := 80 + i) (by decide) (by omega)).mp c_16; omega
    refine gx_iload_n (q := 1) C dX7_bestHeat_85 rfl ?_
    exact gx_iretR C rfl hr dX7_bestHeat_86 (congrArg Value.int (by rw [zBestHeat, if_neg (hI.2 (by omega)), hb]))
  · skip
    have hlt : i < 61 := by have := Nat.le_of_not_lt (fun z => c_16 ((nI_ltI (a := 140) (b := 80 + i) (by decide) (by omega)).mpr z)); omega
    refine gx_aload_n (q := 0) C dX7_bestHeat_19 rfl ?_
    refine gx_iconst (v := 1) C dX7_bestHeat_20 (by decide) ?_
    refine gx_callR C (k_X7_potsAt l hW hM _) (isMS_in hW 0 (Nat.le_of_ble_eq_true rfl)) (isMS_0 hW) rfl (cwV 1 C.2.2.2.2.1 gX7_bestHeat_X7_potsAt rfl rfl rfl kdV_X7_potsAt ⟨Nat.le_of_ble_eq_true rfl, Nat.le_of_ble_eq_true rfl⟩) rfl rfl (Nat.le_of_ble_eq_true rfl) ⟨Nat.le_of_ble_eq_true rfl, Nat.le_of_ble_eq_true rfl⟩ dX7_bestHeat_21 ?_
    refine gx_if_eq (tgt := 85) C dX7_bestHeat_24 (by decide) (fun c_24 => ?_) (fun c_24 => ?_)
    · skip
      refine gx_iload_n (q := 1) C dX7_bestHeat_85 rfl ?_
      exact gx_iretR C rfl hr dX7_bestHeat_86 (congrArg Value.int (by rw [zBestHeat, if_pos c_24, show i = 0 from Classical.byContradiction (fun z => hI.2 (by omega) c_24)]; rfl))
    · skip
      refine gx_aload_n (q := 0) C dX7_bestHeat_27 rfl ?_
      refine gx_iload (q := 4) C dX7_bestHeat_28 rfl ?_
      refine gx_callR C (k_X7_comeOn l hW hM _) (isMS_in hW 0 (Nat.le_of_ble_eq_true rfl)) (isMS_0 hW) rfl (cwV 1 C.2.2.2.2.1 gX7_bestHeat_X7_comeOn rfl rfl rfl kdV_X7_comeOn ⟨Nat.le_of_ble_eq_true rfl, Nat.le_of_ble_eq_true rfl⟩) rfl rfl (Nat.le_of_ble_eq_true rfl) ⟨Nat.le_of_ble_eq_true rfl, Nat.le_of_ble_eq_true rfl⟩ dX7_bestHeat_30 ?_
      refine gx_istore C [(5, _), (0, _), (1, _), (2, _), (3, _), (4, _)] dX7_bestHeat_33 (by decide) rfl ?_
      refine gx_aload_n (q := 1) C dX7_bestHeat_35 rfl ?_
      refine gx_iload (q := 5) C dX7_bestHeat_36 rfl ?_
      refine gx_iconst (v := 4) C dX7_bestHeat_38 (by decide) ?_
      refine gx_iconst (v := 1) C dX7_bestHeat_39 (by decide) ?_
      refine gx_callR C (k_X7_firedTo l hW hM _ _) (isMS_in hW 0 (Nat.le_of_ble_eq_true rfl)) (isMS_0 hW) rfl (cwV 3 C.2.2.2.2.1 gX7_bestHeat_X7_firedTo rfl rfl rfl kdV_X7_firedTo ⟨Nat.le_of_ble_eq_true rfl, Nat.le_of_ble_eq_true rfl⟩) rfl rfl (Nat.le_of_ble_eq_true rfl) ⟨Nat.le_of_ble_eq_true rfl, Nat.le_of_ble_eq_true rfl⟩ dX7_bestHeat_40 ?_
      refine gx_callRS C (k_X7_ones l (k := k) (L := L) _) (va_cwS 1 C.2.2.2.2.1 gX7_bestHeat_X7_ones rfl rfl rfl kdN_X7_ones ⟨Nat.le_of_ble_eq_true rfl, Nat.le_of_ble_eq_true rfl⟩) rfl rfl (Nat.le_of_ble_eq_true rfl) ⟨Nat.le_of_ble_eq_true rfl, Nat.le_of_ble_eq_true rfl⟩ dX7_bestHeat_43 ?_
      refine gx_istore C [(6, _), (5, _), (0, _), (1, _), (2, _), (3, _), (4, _)] dX7_bestHeat_46 (by decide) rfl ?_
      refine gx_iload_n (q := 3) C dX7_bestHeat_48 rfl ?_
      refine gx_if_lt (tgt := 70) C dX7_bestHeat_49 (by decide) (fun c_49 => ?_) (fun c_49 => ?_)
      · skip
        refine gx_iload (q := 6) C dX7_bestHeat_70 rfl ?_
        refine gx_istore_n C (i := 1) [(1, _), (6, _), (5, _), (0, _), (2, _), (3, _), (4, _)] dX7_bestHeat_72 rfl (by decide) rfl ?_
        refine gx_iload (q := 2) C dX7_bestHeat_73 rfl ?_
        refine gx_istore_n C (i := 2) [(2, _), (1, _), (6, _), (5, _), (0, _), (3, _), (4, _)] dX7_bestHeat_75 rfl (by decide) rfl ?_
        refine gx_iload (q := 2) C dX7_bestHeat_76 rfl ?_
        refine gx_istore_n C (i := 3) [(3, _), (2, _), (1, _), (6, _), (5, _), (0, _), (4, _)] dX7_bestHeat_78 rfl (by decide) rfl ?_
        refine gx_iinc C (q := 6) (v := nI (80 + (i + 1))) [(4, _), (3, _), (2, _), (1, _), (6, _), (5, _), (0, _)] dX7_bestHeat_79 rfl (nI_inc (80 + i)) (by decide) rfl ?_
        refine gx_goto (tgt := 11) C dX7_bestHeat_82 (by decide) ?_
        have hst : zBh y (i + 1) = _ := if_pos c_49
        exact gx_back [6, 3, 2, 1, 0] (ih (i + 1) ⟨by omega, fun _ => c_24⟩ (by omega)) rfl (by rw [hst]; rfl)
      · skip
        refine gx_iload (q := 1) C dX7_bestHeat_52 rfl ?_
        refine gx_iload_n (q := 4) C dX7_bestHeat_54 rfl ?_
        refine gx_icmp_gt (tgt := 70) C dX7_bestHeat_55 (by decide) (fun c_55 => ?_) (fun c_55 => ?_)
        · skip
          refine gx_iload (q := 6) C dX7_bestHeat_70 rfl ?_
          refine gx_istore_n C (i := 1) [(1, _), (6, _), (5, _), (0, _), (2, _), (3, _), (4, _)] dX7_bestHeat_72 rfl (by decide) rfl ?_
          refine gx_iload (q := 2) C dX7_bestHeat_73 rfl ?_
          refine gx_istore_n C (i := 2) [(2, _), (1, _), (6, _), (5, _), (0, _), (3, _), (4, _)] dX7_bestHeat_75 rfl (by decide) rfl ?_
          refine gx_iload (q := 2) C dX7_bestHeat_76 rfl ?_
          refine gx_istore_n C (i := 3) [(3, _), (2, _), (1, _), (6, _), (5, _), (0, _), (4, _)] dX7_bestHeat_78 rfl (by decide) rfl ?_
          refine gx_iinc C (q := 6) (v := nI (80 + (i + 1))) [(4, _), (3, _), (2, _), (1, _), (6, _), (5, _), (0, _)] dX7_bestHeat_79 rfl (nI_inc (80 + i)) (by decide) rfl ?_
          refine gx_goto (tgt := 11) C dX7_bestHeat_82 (by decide) ?_
          have hst : zBh y (i + 1) = _ := (if_neg c_49).trans (if_pos c_55)
          exact gx_back [6, 3, 2, 1, 0] (ih (i + 1) ⟨by omega, fun _ => c_24⟩ (by omega)) rfl (by rw [hst]; rfl)
        · skip
          refine gx_iload (q := 1) C dX7_bestHeat_58 rfl ?_
          refine gx_iload_n (q := 4) C dX7_bestHeat_60 rfl ?_
          refine gx_icmp_ne (tgt := 79) C dX7_bestHeat_61 (by decide) (fun c_61 => ?_) (fun c_61 => ?_)
          · skip
            refine gx_iinc C (q := 6) (v := nI (80 + (i + 1))) [(4, _), (6, _), (5, _), (0, _), (1, _), (2, _), (3, _)] dX7_bestHeat_79 rfl (nI_inc (80 + i)) (by decide) rfl ?_
            refine gx_goto (tgt := 11) C dX7_bestHeat_82 (by decide) ?_
            have hst : zBh y (i + 1) = _ := (if_neg c_49).trans ((if_neg c_55).trans (if_neg c_61))
            exact gx_back [3, 4, 5, 6, 0] (ih (i + 1) ⟨by omega, fun _ => c_24⟩ (by omega)) rfl (by rw [hst]; rfl)
          · skip
            refine gx_iload (q := 0) C dX7_bestHeat_64 rfl ?_
            refine gx_iload_n (q := 5) C dX7_bestHeat_66 rfl ?_
            refine gx_icmp_ge (tgt := 79) C dX7_bestHeat_67 (by decide) (fun c_67 => ?_) (fun c_67 => ?_)
            · skip
              refine gx_iinc C (q := 6) (v := nI (80 + (i + 1))) [(4, _), (6, _), (5, _), (0, _), (1, _), (2, _), (3, _)] dX7_bestHeat_79 rfl (nI_inc (80 + i)) (by decide) rfl ?_
              refine gx_goto (tgt := 11) C dX7_bestHeat_82 (by decide) ?_
              have hst : zBh y (i + 1) = _ := (if_neg c_49).trans ((if_neg c_55).trans ((if_pos c_61).trans (if_pos c_67)))
              exact gx_back [3, 4, 5, 6, 0] (ih (i + 1) ⟨by omega, fun _ => c_24⟩ (by omega)) rfl (by rw [hst]; rfl)
            · skip
              refine gx_iload (q := 6) C dX7_bestHeat_70 rfl ?_
              refine gx_istore_n C (i := 1) [(1, _), (6, _), (5, _), (0, _), (2, _), (3, _), (4, _)] dX7_bestHeat_72 rfl (by decide) rfl ?_
              refine gx_iload (q := 2) C dX7_bestHeat_73 rfl ?_
              refine gx_istore_n C (i := 2) [(2, _), (1, _), (6, _), (5, _), (0, _), (3, _), (4, _)] dX7_bestHeat_75 rfl (by decide) rfl ?_
              refine gx_iload (q := 2) C dX7_bestHeat_76 rfl ?_
              refine gx_istore_n C (i := 3) [(3, _), (2, _), (1, _), (6, _), (5, _), (0, _), (4, _)] dX7_bestHeat_78 rfl (by decide) rfl ?_
              refine gx_iinc C (q := 6) (v := nI (80 + (i + 1))) [(4, _), (3, _), (2, _), (1, _), (6, _), (5, _), (0, _)] dX7_bestHeat_79 rfl (nI_inc (80 + i)) (by decide) rfl ?_
              refine gx_goto (tgt := 11) C dX7_bestHeat_82 (by decide) ?_
              have hst : zBh y (i + 1) = _ := (if_neg c_49).trans ((if_neg c_55).trans ((if_pos c_61).trans (if_neg c_67)))
              exact gx_back [6, 3, 2, 1, 0] (ih (i + 1) ⟨by omega, fun _ => c_24⟩ (by omega)) rfl (by rw [hst]; rfl)
