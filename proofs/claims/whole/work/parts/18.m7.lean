theorem kdN_X7_firstFree : yX7_firstFree.cls ≠ "java/lang/invoke/MethodHandle" ∧ yX7_firstFree.cls ≠ "java/lang/invoke/VarHandle" ∧ (parseMethodDescriptor yX7_firstFree.desc).map (fun d => d.parameters.length) = some 2 := by decide +kernel
theorem kdV_X7_firstFree : yX7_firstFree.cls = RX7 ∧ yX7_firstFree.cls ≠ "java/lang/invoke/MethodHandle" ∧ yX7_firstFree.cls ≠ "java/lang/invoke/VarHandle" ∧ (parseMethodDescriptor yX7_firstFree.desc).map (fun d => d.parameters.length) = some 2 := ⟨rfl, kdN_X7_firstFree⟩
theorem nI_dec (r : Nat) : nI r + Int32.ofInt (-1) = nI r - 1 := by
  rw [show Int32.ofInt (-1) = -1 from rfl, Int32.sub_eq_add_neg]
theorem nI_m1 : nI 0 - 1 = (-1 : Int32) := by decide
def zFi (y : MS) (q what : Int32) (a : Nat) (f0 : Int32) : Nat → Int32
  | 0 => f0
  | j + 1 => if 0 ≤ y.1 0 (215 + 21 * (4 - j) + a) then zFi y q what a f0 j else if 0 ≤ zWh (y.1 0) q a 5 then zFi y q what a f0 j else if what = 0 then y.1 0 0 + nI a else nI (4 - j)
def zFo (y : MS) (q what : Int32) : Nat → Int32
  | 0 => -6
  | i + 1 => zFi y q what (20 - i) (zFo y q what i) 5
def zFirst (y : MS) (q what : Int32) : Int32 := if vX7_isPupil y q = true then (if isW what 0 1 = true then zFo y q what 21 else -2) else -1
theorem in_X7_firstFree_7 : ∀ w ∈ u_ws RX7 TX7 13, w ∈ wsX7_firstFree := by decide +kernel
theorem fl_X7_firstFree_7 : Cond.fieldLink RX7 7 (TX7 0).1 (TX7 0).2.1 (TX7 0).2.2.1 ∈ wsX7_firstFree := by decide +kernel
abbrev rmX7_firstFree : Room := { frames := 2, cells := 0, slots := 0, locals := 46 }
set_option maxHeartbeats 4000000 in
set_option maxRecDepth 100000 in
theorem k_X7_firstFree (l : Launch) {k : gK} {L : List Nat} {f : Nat → va_E} {o : Nat → Nat} {y : MS} (hW : isMS k L f o y) (q : Int32) (what : Int32) : kR l k L f yX7_firstFree wsX7_firstFree rmX7_firstFree [.ref (o 0), .int q, .int what] (.int (zFirst y q what)) := by
  refine kR_of (cc := cX7_firstFree) (maxL := 7) (ret := (some .int)) (by decide) rfl (Nat.le_of_ble_eq_true rfl) ?_
  intro p e s m args below meth c C hr
  refine gx_lv [(0, _), (1, _), (2, _)] [0, 1, 2] rfl ?_
  refine gx_aload_n (q := 0) C dX7_firstFree_0 rfl ?_
  refine gx_iload_n (q := 1) C dX7_firstFree_1 rfl ?_
  refine gx_callR C (k_X7_isPupil l hW _) (isMS_in hW 0 (Nat.le_of_ble_eq_true rfl)) (isMS_0 hW) rfl (cwV 1 C.2.2.2.2.1 gX7_firstFree_X7_isPupil rfl rfl rfl kdV_X7_isPupil ⟨Nat.le_of_ble_eq_true rfl, Nat.le_of_ble_eq_true rfl⟩) rfl rfl (Nat.le_of_ble_eq_true rfl) ⟨Nat.le_of_ble_eq_true rfl, Nat.le_of_ble_eq_true rfl⟩ dX7_firstFree_2 ?_
  refine gx_if_ne (tgt := 10) C dX7_firstFree_5 (by decide) (fun c_5 => ?_) (fun c_5 => ?_)
  · skip
    have h_5 := bI1.mp c_5
    refine gx_iload_n (q := 2) C dX7_firstFree_10 rfl ?_
    refine gx_iconst (v := 0) C dX7_firstFree_11 (by decide) ?_
    refine gx_iconst (v := 1) C dX7_firstFree_12 (by decide) ?_
    refine gx_callRS C (k_X7_in l (k := k) (L := L) _ _ _) (va_cwS 3 C.2.2.2.2.1 gX7_firstFree_X7_in rfl rfl rfl kdN_X7_in ⟨Nat.le_of_ble_eq_true rfl, Nat.le_of_ble_eq_true rfl⟩) rfl rfl (Nat.le_of_ble_eq_true rfl) ⟨Nat.le_of_ble_eq_true rfl, Nat.le_of_ble_eq_true rfl⟩ dX7_firstFree_13 ?_
    refine gx_if_ne (tgt := 22) C dX7_firstFree_16 (by decide) (fun c_16 => ?_) (fun c_16 => ?_)
    · skip
      have h_16 := bI1.mp c_16
      refine gx_bipush (v := (-6)) C dX7_firstFree_22 (by decide) ?_
      refine gx_istore_n C (i := 3) [(3, _), (0, _), (1, _), (2, _)] dX7_firstFree_24 rfl (by decide) rfl ?_
      refine gx_bipush (v := 20) C dX7_firstFree_25 (by decide) ?_
      refine gx_istore C [(4, _), (3, _), (0, _), (1, _), (2, _)] dX7_firstFree_27 (by decide) rfl ?_
      refine gx_loop (σ := Nat) (fun i => f) (fun i => [(0, .ref (o 0)), (1, .int q), (2, .int what), (3, .int (zFo y q what i)), (4, .int (nI (21 - i) - 1))]) (fun i => i ≤ 21) (fun i => 21 - i) 0 [2, 3, 4, 1, 0] rfl rfl ?_ ?_
      · exact Nat.zero_le _
      intro i hI ih
      try dsimp only at hI ih ⊢
      rcases Nat.lt_or_ge i 21 with hs_i | hs_i
      · skip
        refine gx_back (lv2 := [(0, .ref (o 0)), (1, .int q), (2, .int what), (3, .int (zFo y q what i)), (4, .int (nI (20 - i)))]) [0, 1, 2, 3, 4] ?_ rfl (by rw [show 21 - i = (20 - i) + 1 by omega, nI_pred]; rfl)
        refine gx_iload (q := 4) C dX7_firstFree_29 rfl ?_
        refine gx_if_lt (tgt := 110) C dX7_firstFree_31 (by decide) (fun c_31 => ?_) (fun c_31 => ?_)
        · skip
          exact absurd c_31 (nI_pos (by omega))
        · skip
          refine gx_iconst (v := 4) C dX7_firstFree_34 (by decide) ?_
          refine gx_istore C [(5, _), (0, _), (1, _), (2, _), (3, _), (4, _)] dX7_firstFree_35 (by decide) rfl ?_
          refine gx_loop (σ := Nat) (fun j => f) (fun j => [(0, .ref (o 0)), (1, .int q), (2, .int what), (3, .int (zFi y q what (20 - i) (zFo y q what i) j)), (4, .int (nI (20 - i))), (5, .int (nI (5 - j) - 1))]) (fun j => j ≤ 5) (fun j => 5 - j) 0 [1, 2, 3, 4, 5, 0] rfl rfl ?_ ?_
          · exact Nat.zero_le _
          intro j hJ ihj
          try dsimp only at hJ ihj ⊢
          rcases Nat.lt_or_ge j 5 with hs_j | hs_j
          · skip
            refine gx_back (lv2 := [(0, .ref (o 0)), (1, .int q), (2, .int what), (3, .int (zFi y q what (20 - i) (zFo y q what i) j)), (4, .int (nI (20 - i))), (5, .int (nI (4 - j)))]) [0, 1, 2, 3, 4, 5] ?_ rfl (by rw [show 5 - j = (4 - j) + 1 by omega, nI_pred]; rfl)
            refine gx_iload (q := 5) C dX7_firstFree_37 rfl ?_
            refine gx_if_lt (tgt := 104) C dX7_firstFree_39 (by decide) (fun c_39 => ?_) (fun c_39 => ?_)
            · skip
              exact absurd c_39 (nI_pos (by omega))
            · skip
              refine gx_aload_n (q := 0) C dX7_firstFree_42 rfl ?_
              refine gx_iload (q := 5) C dX7_firstFree_43 rfl ?_
              refine gx_iload (q := 4) C dX7_firstFree_45 rfl ?_
              refine gx_callR C (k_X7_bookedBy l hW _ _ (i := (4 - j)) rfl (by omega) (j := (20 - i)) rfl (by omega)) (isMS_in hW 0 (Nat.le_of_ble_eq_true rfl)) (isMS_0 hW) rfl (cwV 2 C.2.2.2.2.1 gX7_firstFree_X7_bookedBy rfl rfl rfl kdV_X7_bookedBy ⟨Nat.le_of_ble_eq_true rfl, Nat.le_of_ble_eq_true rfl⟩) rfl rfl (Nat.le_of_ble_eq_true rfl) ⟨Nat.le_of_ble_eq_true rfl, Nat.le_of_ble_eq_true rfl⟩ dX7_firstFree_47 ?_
              refine gx_if_ge (tgt := 67) C dX7_firstFree_50 (by decide) (fun c_50 => ?_) (fun c_50 => ?_)
              · skip
                refine gx_iconst (v := 0) C dX7_firstFree_67 (by decide) ?_
                refine gx_istore C [(6, _), (0, _), (1, _), (2, _), (3, _), (4, _), (5, _)] dX7_firstFree_68 (by decide) rfl ?_
                refine gx_iload (q := 0) C dX7_firstFree_70 rfl ?_
                refine gx_if_eq (tgt := 96) C dX7_firstFree_72 (by decide) (fun c_72 => ?_) (fun c_72 => ?_)
                refine gx_iload_n (q := 4) C dX7_firstFree_96 rfl ?_
                refine gx_istore_n C (i := 3) [(3, _), (6, _), (0, _), (1, _), (2, _), (4, _), (5, _)] dX7_firstFree_97 rfl (by decide) rfl ?_
                refine gx_iinc C (q := 6) (v := (nI (4 - j) - 1)) [(5, _), (3, _), (6, _), (0, _), (1, _), (2, _), (4, _)] dX7_firstFree_98 rfl (nI_dec _) (by decide) rfl ?_
                refine gx_goto (tgt := 37) C dX7_firstFree_101 (by decide) ?_
                have hst : zFi y q what (20 - i) (zFo y q what i) (j + 1) = _ := if_pos c_50
                exact gx_back [3, 4, 5, 1, 6, 0] (ihj (j + 1) (by omega) (by omega)) rfl (by rw [hst, show 5 - (j + 1) = 4 - j by omega]; rfl)
                exact absurd (by decide) c_72
              · skip
                refine gx_aload_n (q := 0) C dX7_firstFree_53 rfl ?_
                refine gx_iload_n (q := 1) C dX7_firstFree_54 rfl ?_
                refine gx_iload (q := 4) C dX7_firstFree_55 rfl ?_
                refine gx_callR C (k_X7_wheelOf l hW _ _ (j := (20 - i)) rfl (by omega)) (isMS_in hW 0 (Nat.le_of_ble_eq_true rfl)) (isMS_0 hW) rfl (cwV 2 C.2.2.2.2.1 gX7_firstFree_X7_wheelOf rfl rfl rfl kdV_X7_wheelOf ⟨Nat.le_of_ble_eq_true rfl, Nat.le_of_ble_eq_true rfl⟩) rfl rfl (Nat.le_of_ble_eq_true rfl) ⟨Nat.le_of_ble_eq_true rfl, Nat.le_of_ble_eq_true rfl⟩ dX7_firstFree_57 ?_
                refine gx_if_ge (tgt := 67) C dX7_firstFree_60 (by decide) (fun c_60 => ?_) (fun c_60 => ?_)
                · skip
                  refine gx_iconst (v := 0) C dX7_firstFree_67 (by decide) ?_
                  refine gx_istore C [(6, _), (0, _), (1, _), (2, _), (3, _), (4, _), (5, _)] dX7_firstFree_68 (by decide) rfl ?_
                  refine gx_iload (q := 0) C dX7_firstFree_70 rfl ?_
                  refine gx_if_eq (tgt := 96) C dX7_firstFree_72 (by decide) (fun c_72 => ?_) (fun c_72 => ?_)
                  refine gx_iload_n (q := 4) C dX7_firstFree_96 rfl ?_
                  refine gx_istore_n C (i := 3) [(3, _), (6, _), (0, _), (1, _), (2, _), (4, _), (5, _)] dX7_firstFree_97 rfl (by decide) rfl ?_
                  refine gx_iinc C (q := 6) (v := (nI (4 - j) - 1)) [(5, _), (3, _), (6, _), (0, _), (1, _), (2, _), (4, _)] dX7_firstFree_98 rfl (nI_dec _) (by decide) rfl ?_
                  refine gx_goto (tgt := 37) C dX7_firstFree_101 (by decide) ?_
                  have hst : zFi y q what (20 - i) (zFo y q what i) (j + 1) = _ := (if_neg c_50).trans (if_pos c_60)
                  exact gx_back [3, 4, 5, 1, 6, 0] (ihj (j + 1) (by omega) (by omega)) rfl (by rw [hst, show 5 - (j + 1) = 4 - j by omega]; rfl)
                  exact absurd (by decide) c_72
                · skip
                  refine gx_iconst (v := 1) C dX7_firstFree_63 (by decide) ?_
                  refine gx_goto (tgt := 68) C dX7_firstFree_64 (by decide) ?_
                  refine gx_istore C [(6, _), (0, _), (1, _), (2, _), (3, _), (4, _), (5, _)] dX7_firstFree_68 (by decide) rfl ?_
                  refine gx_iload (q := 0) C dX7_firstFree_70 rfl ?_
                  refine gx_if_eq (tgt := 96) C dX7_firstFree_72 (by decide) (fun c_72 => ?_) (fun c_72 => ?_)
                  exact absurd c_72 (by decide)
                  refine gx_iload_n (q := 3) C dX7_firstFree_75 rfl ?_
                  refine gx_if_ne (tgt := 91) C dX7_firstFree_76 (by decide) (fun c_76 => ?_) (fun c_76 => ?_)
                  · skip
                    refine gx_iload (q := 6) C dX7_firstFree_91 rfl ?_
                    refine gx_goto (tgt := 97) C dX7_firstFree_93 (by decide) ?_
                    refine gx_istore_n C (i := 3) [(3, _), (6, _), (0, _), (1, _), (2, _), (4, _), (5, _)] dX7_firstFree_97 rfl (by decide) rfl ?_
                    refine gx_iinc C (q := 6) (v := (nI (4 - j) - 1)) [(5, _), (3, _), (6, _), (0, _), (1, _), (2, _), (4, _)] dX7_firstFree_98 rfl (nI_dec _) (by decide) rfl ?_
                    refine gx_goto (tgt := 37) C dX7_firstFree_101 (by decide) ?_
                    have hst : zFi y q what (20 - i) (zFo y q what i) (j + 1) = _ := (if_neg c_50).trans ((if_neg c_60).trans (if_neg c_76))
                    exact gx_back [3, 4, 5, 1, 6, 0] (ihj (j + 1) (by omega) (by omega)) rfl (by rw [hst, show 5 - (j + 1) = 4 - j by omega]; rfl)
                  · skip
                    refine gx_aload_n (q := 1) C dX7_firstFree_79 rfl ?_
                    refine gx_get C (i := 0) (isMS_in hW 0 (Nat.le_of_ble_eq_true rfl)) (isMS_0 hW) rfl in_X7_firstFree_7 (by decide) fl_X7_firstFree_7 rfl dX7_firstFree_80 ?_
                    refine gx_iconst (v := 0) C dX7_firstFree_83 (by decide) ?_
                    refine gx_ialdN C (isMS_in hW 1 (Nat.le_of_ble_eq_true rfl)) (isMS_a0 hW) (nLit 0) (by omega) (by decide) dX7_firstFree_84 ?_
                    refine gx_iload (q := 5) C dX7_firstFree_85 rfl ?_
                    refine gx_iadd C dX7_firstFree_87 ?_
                    refine gx_goto (tgt := 97) C dX7_firstFree_88 (by decide) ?_
                    refine gx_istore_n C (i := 3) [(3, _), (6, _), (0, _), (1, _), (2, _), (4, _), (5, _)] dX7_firstFree_97 rfl (by decide) rfl ?_
                    refine gx_iinc C (q := 6) (v := (nI (4 - j) - 1)) [(5, _), (3, _), (6, _), (0, _), (1, _), (2, _), (4, _)] dX7_firstFree_98 rfl (nI_dec _) (by decide) rfl ?_
                    refine gx_goto (tgt := 37) C dX7_firstFree_101 (by decide) ?_
                    have hst : zFi y q what (20 - i) (zFo y q what i) (j + 1) = _ := (if_neg c_50).trans ((if_neg c_60).trans (if_pos c_76))
                    exact gx_back [3, 4, 5, 1, 6, 0] (ihj (j + 1) (by omega) (by omega)) rfl (by rw [hst, show 5 - (j + 1) = 4 - j by omega]; rfl)
          · skip
            refine gx_back (lv2 := [(0, .ref (o 0)), (1, .int q), (2, .int what), (3, .int (zFi y q what (20 - i) (zFo y q what i) j)), (4, .int (nI (20 - i))), (5, .int (-1))]) [0, 1, 2, 3, 4, 5] ?_ rfl (by rw [show 5 - j = 0 by omega, nI_m1]; rfl)
            refine gx_iload (q := 5) C dX7_firstFree_37 rfl ?_
            refine gx_if_lt (tgt := 104) C dX7_firstFree_39 (by decide) (fun c_39 => ?_) (fun c_39 => ?_)
            refine gx_iinc C (q := 4) (v := (nI (20 - i) - 1)) [(4, _), (0, _), (1, _), (2, _), (3, _), (5, _)] dX7_firstFree_104 rfl (nI_dec _) (by decide) rfl ?_
            refine gx_goto (tgt := 29) C dX7_firstFree_107 (by decide) ?_
            have hst : zFo y q what (i + 1) = zFi y q what (20 - i) (zFo y q what i) 5 := rfl
            obtain rfl : j = 5 := by omega
            exact gx_back [1, 2, 3, 4, 0] (ih (i + 1) (by omega) (by omega)) rfl (by rw [hst, show 21 - (i + 1) = 20 - i by omega]; rfl)
            exact absurd (by decide) c_39
      · skip
        refine gx_back (lv2 := [(0, .ref (o 0)), (1, .int q), (2, .int what), (3, .int (zFo y q what i)), (4, .int (-1))]) [0, 1, 2, 3, 4] ?_ rfl (by rw [show 21 - i = 0 by omega, nI_m1]; rfl)
        refine gx_iload (q := 4) C dX7_firstFree_29 rfl ?_
        refine gx_if_lt (tgt := 110) C dX7_firstFree_31 (by decide) (fun c_31 => ?_) (fun c_31 => ?_)
        refine gx_iload_n (q := 3) C dX7_firstFree_110 rfl ?_
        exact gx_iretR C rfl hr dX7_firstFree_111 (congrArg Value.int (by obtain rfl : i = 21 := (by omega); exact ((if_pos h_5).trans (if_pos h_16)).symm))
        exact absurd (by decide) c_31
    · skip
      have h_16 := bI0.mp c_16
      refine gx_bipush (v := (-2)) C dX7_firstFree_19 (by decide) ?_
      exact gx_iretR C rfl hr dX7_firstFree_21 (congrArg Value.int (by exact ((if_pos h_5).trans ((if_neg (bF h_16)).trans (rfl))).symm))
  · skip
    have h_5 := bI0.mp c_5
    refine gx_iconst (v := (-1)) C dX7_firstFree_8 (by decide) ?_
    exact gx_iretR C rfl hr dX7_firstFree_9 (congrArg Value.int (by exact ((if_neg (bF h_5)).trans (rfl)).symm))
theorem kdN_X7_wipe : yX7_wipe.cls ≠ "java/lang/invoke/MethodHandle" ∧ yX7_wipe.cls ≠ "java/lang/invoke/VarHandle" ∧ (parseMethodDescriptor yX7_wipe.desc).map (fun d => d.parameters.length) = some 0 := by decide +kernel
theorem kdV_X7_wipe : yX7_wipe.cls = RX7 ∧ yX7_wipe.cls ≠ "java/lang/invoke/MethodHandle" ∧ yX7_wipe.cls ≠ "java/lang/invoke/VarHandle" ∧ (parseMethodDescriptor yX7_wipe.desc).map (fun d => d.parameters.length) = some 0 := ⟨rfl, kdN_X7_wipe⟩
def vX7_wipe (y : MS)  : Int32 := (y.2 1)
def wX7_wipe (y : MS)  : MS := (mSc y 1 0)
theorem in_X7_wipe_7 : ∀ w ∈ u_ws RX7 TX7 13, w ∈ wsX7_wipe := by decide +kernel
theorem fl_X7_wipe_175 : Cond.fieldLink RX7 175 (TX7 6).1 (TX7 6).2.1 (TX7 6).2.2.1 ∈ wsX7_wipe := by decide +kernel
abbrev rmX7_wipe : Room := { frames := 0, cells := 0, slots := 0, locals := 0 }
set_option maxHeartbeats 4000000 in
set_option maxRecDepth 100000 in
theorem k_X7_wipe (l : Launch) {k : gK} {L : List Nat} {f : Nat → va_E} (hL : L.Nodup) {o : Nat → Nat} {y : MS} (hW : isMS k L f o y)  : kM l k L f yX7_wipe wsX7_wipe rmX7_wipe [.ref (o 0)] (mP k L o f (some (.int (vX7_wipe y ))) (wX7_wipe y )) := by
  refine kM_of (cc := cX7_wipe) (maxL := 2) (ret := (some .int)) (by decide) rfl (Nat.le_of_ble_eq_true rfl) ?_
  intro p e s m args below meth c C hr
  have hD : gD (fun q => q ∈ L) L := ⟨hL, fun _ h => h⟩
  refine gx_lv [(0, _)] [0] rfl ?_
  refine gx_aload_n (q := 0) C dX7_wipe_0 rfl ?_
  refine gx_get C (i := 6) (isMS_in hW 0 (Nat.le_of_ble_eq_true rfl)) (isMS_0 hW) rfl in_X7_wipe_7 (by decide) fl_X7_wipe_175 rfl dX7_wipe_1 ?_
  refine gx_istore_n C (i := 1) [(1, _), (0, _)] dX7_wipe_4 rfl (by decide) rfl ?_
  refine gx_aload_n (q := 1) C dX7_wipe_5 rfl ?_
  refine gx_iconst (v := 0) C dX7_wipe_6 (by decide) ?_
  refine gx_put C hD (i := 6) (ty := .int) tyX7_ok nmX7 (isMS_in hW 0 (Nat.le_of_ble_eq_true rfl)) (isMS_0 hW) rfl in_X7_wipe_7 (by decide) fl_X7_wipe_175 rfl (by decide +kernel) rfl rfl (Nat.le_of_ble_eq_true rfl) rfl dX7_wipe_7 ?_
  refine gx_Ss1 hW (gFr_rf (f := f)) (fun f_1 hW_1 hF_1 => ?_)
  refine gx_iload_n (q := 0) C dX7_wipe_10 rfl ?_
  exact gx_iretS C hr hW_1 hF_1 dX7_wipe_11 (rfl).symm (rfl).symm
