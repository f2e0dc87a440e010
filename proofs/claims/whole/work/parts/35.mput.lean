theorem kdN_X7_put_ : yX7_put_.cls ≠ "java/lang/invoke/MethodHandle" ∧ yX7_put_.cls ≠ "java/lang/invoke/VarHandle" ∧ (parseMethodDescriptor yX7_put_.desc).map (fun d => d.parameters.length) = some 1 := by decide +kernel
theorem kdV_X7_put_ : yX7_put_.cls = RX7 ∧ yX7_put_.cls ≠ "java/lang/invoke/MethodHandle" ∧ yX7_put_.cls ≠ "java/lang/invoke/VarHandle" ∧ (parseMethodDescriptor yX7_put_.desc).map (fun d => d.parameters.length) = some 1 := ⟨rfl, kdN_X7_put_⟩
def zEd (x : Int64) (k : Nat) : Bool := decide (0 < k) && decide (lg_cmp (lU x (8 * nI k)) 0 = 0)
def zMn (x : Int64) : Nat → Nat
  | 0 => 0
  | k + 1 => if zEd x k = true then zMn x k else zMn x k + 1
def zBd (x : Int64) : Nat → Bool
  | 0 => false
  | k + 1 => zBd x k || (!zEd x k && !isW (cIn x (nI k)) 33 126)
theorem zMn_le (x : Int64) : ∀ k, zMn x k ≤ k
  | 0 => Nat.le_refl 0
  | k + 1 => by
    have := zMn_le x k
    unfold zMn
    split <;> omega
theorem zMn_t {x : Int64} {k : Nat} (h : zEd x k = true) : zMn x (k + 1) = zMn x k := if_pos h
theorem zMn_f {x : Int64} {k : Nat} (h : zEd x k = false) : zMn x (k + 1) = zMn x k + 1 := if_neg (bF h)
def zPt (y : MS) (x : Int64) (n m kk : Nat) : MS := mRow y 4 (fun i => if n + m - kk ≤ i ∧ i < n + m then cIn x (nI (n + m - 1 - i)) else y.1 4 i)
theorem zPt_0 (y : MS) (x : Int64) (n m : Nat) : zPt y x n m 0 = y := by
  unfold zPt
  rw [show (fun i => if n + m - 0 ≤ i ∧ i < n + m then cIn x (nI (n + m - 1 - i)) else y.1 4 i) = y.1 4 from funext (fun i => if_neg (by omega))]
  exact mS_id y 4
theorem zPt_s (y : MS) (x : Int64) (n m kk : Nat) {ii : Nat} {c : Int32} (hk : kk < m) (hi : ii = n + m - 1 - kk) (hc : c = cIn x (nI kk)) : zPt y x n m (kk + 1) = mRow (zPt y x n m kk) 4 (upd ((zPt y x n m kk).1 4) ii c) := by
  subst hi; subst hc
  unfold zPt
  rw [mRow2, mRow_at]
  refine congrArg (mRow y 4) (funext (fun i => ?_))
  show _ = if i = n + m - 1 - kk then _ else (if n + m - kk ≤ i ∧ i < n + m then cIn x (nI (n + m - 1 - i)) else y.1 4 i)
  by_cases h : i = n + m - 1 - kk
  · rw [if_pos h, if_pos (by omega), show n + m - 1 - i = kk by omega]
  · rw [if_neg h]
    by_cases h2 : n + m - kk ≤ i ∧ i < n + m
    · rw [if_pos h2, if_pos (by omega)]
    · rw [if_neg h2, if_neg (by omega)]
def vMP (x : Int64) (n : Nat) : Int32 := if zBd x 8 = true then -2 else if 80 < n + zMn x 8 then -4 else nI (n + zMn x 8)
def wMP (y : MS) (x : Int64) (n : Nat) : MS := if zBd x 8 = true then y else if 80 < n + zMn x 8 then y else mSc (zPt y x n (zMn x 8) (zMn x 8)) 1 (nI (n + zMn x 8))
theorem in_X7_put__7 : ∀ w ∈ u_ws RX7 TX7 13, w ∈ wsX7_put_ := by decide +kernel
theorem fl_X7_put__175 : Cond.fieldLink RX7 175 (TX7 6).1 (TX7 6).2.1 (TX7 6).2.2.1 ∈ wsX7_put_ := by decide +kernel
theorem fl_X7_put__23 : Cond.fieldLink RX7 23 (TX7 5).1 (TX7 5).2.1 (TX7 5).2.2.1 ∈ wsX7_put_ := by decide +kernel
theorem wd_X7_put__k181 : Cond.constantLong RX7 181 (255) ∈ wsX7_put_ := by decide +kernel
abbrev rmX7_put_ : Room := { frames := 1, cells := 0, slots := 0, locals := 22 }
set_option maxHeartbeats 4000000 in
set_option maxRecDepth 100000 in
theorem k_X7_put_ (l : Launch) {k : gK} {L : List Nat} {f : Nat → va_E} (hL : L.Nodup) {o : Nat → Nat} {y : MS} (hW : isMS k L f o y) {n : Nat} (hn : y.2 1 = nI n) (hn2 : n ≤ 80) (x : Int64) : kM l k L f yX7_put_ wsX7_put_ rmX7_put_ [.ref (o 0), .long x] (mP k L o f (some (.int (vMP x n))) (wMP y x n)) := by
  refine kM_of (cc := cX7_put_) (maxL := 8) (ret := (some .int)) (by decide) rfl (Nat.le_of_ble_eq_true rfl) ?_
  intro p e s m args below meth c C hr
  have hD : gD (fun q => q ∈ L) L := ⟨hL, fun _ h => h⟩
  refine gx_lv [(0, _), (1, _)] [0, 1] rfl ?_
  refine gx_iconst (v := 0) C dX7_put__0 (by decide) ?_
  refine gx_istore_n C (i := 3) [(3, _), (0, _), (1, _)] dX7_put__1 rfl (by decide) rfl ?_
  refine gx_iconst (v := 0) C dX7_put__2 (by decide) ?_
  refine gx_istore C [(4, _), (3, _), (0, _), (1, _)] dX7_put__3 (by decide) rfl ?_
  refine gx_iconst (v := 0) C dX7_put__5 (by decide) ?_
  refine gx_istore C [(5, _), (4, _), (3, _), (0, _), (1, _)] dX7_put__6 (by decide) rfl ?_
  refine gx_loop (σ := Nat) (fun i => f) (fun i => [(0, .ref (o 0)), (1, .long x), (3, .int (nI (zMn x i))), (4, .int (bI (zBd x i))), (5, .int (nI i))]) (fun i => i ≤ 8) (fun i => 8 - i) 0 [3, 4, 2, 1, 0] rfl rfl ?_ ?_
  · exact Nat.zero_le _
  intro i hI ih
  try dsimp only at hI ih ⊢
  refine gx_iload (q := 4) C dX7_put__8 rfl ?_
  refine gx_bipush (v := 8) C dX7_put__10 (by decide) ?_
  refine gx_icmp_ge (tgt := 101) C dX7_put__12 (by decide) (fun c_12 => ?_) (fun c_12 => ?_)
  · skip
    have hb := (nI_leI (a := 8) (b := i) (by decide) (by omega)).mp c_12
    have hi8 : i = 8 := Nat.le_antisymm hI hb
    subst hi8
    have hm8 := zMn_le x 8
    refine gx_iload (q := 3) C dX7_put__101 rfl ?_
    refine gx_if_eq (tgt := 109) C dX7_put__103 (by decide) (fun c_103 => ?_) (fun c_103 => ?_)
    · skip
      have h_103 := bI0.mp c_103
      refine gx_aload_n (q := 0) C dX7_put__109 rfl ?_
      refine gx_get C (i := 6) (isMS_in hW 0 (Nat.le_of_ble_eq_true rfl)) (isMS_0 hW) rfl in_X7_put__7 (by decide) fl_X7_put__175 rfl dX7_put__110 ?_
      refine gx_top (nI n) hn ?_
      refine gx_iload_n (q := 2) C dX7_put__113 rfl ?_
      refine gx_iadd C dX7_put__114 ?_
      refine gx_bipush (v := 80) C dX7_put__115 (by decide) ?_
      refine gx_icmp_le (tgt := 123) C dX7_put__117 (by decide) (fun c_117 => ?_) (fun c_117 => ?_)
      · skip
        have h117 : ¬ 80 < n + zMn x 8 := fun z => by have := (nI_leI (a := n + zMn x 8) (b := 80) (by omega) (by decide)).mp (by rw [← nI_add]; exact c_117); omega
        refine gx_iconst (v := 0) C dX7_put__123 (by decide) ?_
        refine gx_istore C [(5, _), (0, _), (1, _), (3, _), (4, _)] dX7_put__124 (by decide) rfl ?_
        refine gx_loop (σ := Nat × (Nat → va_E)) (fun z => z.2) (fun z => [(0, .ref (o 0)), (1, .long x), (3, .int (nI (zMn x 8))), (5, .int (nI z.1))]) (fun z => z.1 ≤ zMn x 8 ∧ isMS k L z.2 o (zPt y x n (zMn x 8) z.1) ∧ gFr o 6 f z.2) (fun z => zMn x 8 - z.1) (0, _) [1, 2, 3, 0] rfl rfl ?_ ?_
        · exact ⟨Nat.zero_le _, (isMS_same hW (zPt_0 y x n _)), (gFr_rf (f := f))⟩
        intro ⟨i, fi⟩ ⟨hI, hWi, hFi⟩ ih
        try dsimp only at hI hWi hFi ih ⊢
        refine gx_iload (q := 3) C dX7_put__126 rfl ?_
        refine gx_iload_n (q := 2) C dX7_put__128 rfl ?_
        refine gx_icmp_ge (tgt := 166) C dX7_put__129 (by decide) (fun c_129 => ?_) (fun c_129 => ?_)
        · skip
          have hb2 := (nI_leI (a := zMn x 8) (b := i) (by omega) (by omega)).mp c_129
          have him : i = zMn x 8 := Nat.le_antisymm hI hb2
          subst him
          refine gx_aload_n (q := 0) C dX7_put__166 rfl ?_
          refine gx_dup C rfl dX7_put__167 ?_
          refine gx_get C (i := 6) (isMS_in hWi 0 (Nat.le_of_ble_eq_true rfl)) (isMS_0 hWi) rfl in_X7_put__7 (by decide) fl_X7_put__175 rfl dX7_put__168 ?_
          refine gx_top (nI n) hn ?_
          refine gx_iload_n (q := 2) C dX7_put__171 rfl ?_
          refine gx_iadd C dX7_put__172 ?_
          refine gx_top (nI (n + zMn x 8)) (nAdd rfl rfl) ?_
          refine gx_put C hD (i := 6) (ty := .int) tyX7_ok nmX7 (isMS_in hWi 0 (Nat.le_of_ble_eq_true rfl)) (isMS_0 hWi) rfl in_X7_put__7 (by decide) fl_X7_put__175 rfl (by decide +kernel) rfl rfl (Nat.le_of_ble_eq_true rfl) rfl dX7_put__173 ?_
          refine gx_Ss1 hWi hFi (fun f_1 hW_1 hF_1 => ?_)
          refine gx_aload_n (q := 0) C dX7_put__176 rfl ?_
          refine gx_get C (i := 6) (isMS_in hW_1 0 (Nat.le_of_ble_eq_true rfl)) (isMS_0 hW_1) rfl in_X7_put__7 (by decide) fl_X7_put__175 rfl dX7_put__177 ?_
          refine gx_top (nI (n + zMn x 8)) rfl ?_
          exact gx_iretS C hr hW_1 hF_1 dX7_put__180 (by exact ((if_neg (bF h_103)).trans (if_neg h117)).symm) (by exact ((if_neg (bF h_103)).trans (if_neg h117)).symm)
        · skip
          have hlt2 : i < zMn x 8 := Nat.lt_of_not_le (fun z => c_129 ((nI_leI (a := zMn x 8) (b := i) (by omega) (by omega)).mpr z))
          refine gx_aload_n (q := 0) C dX7_put__132 rfl ?_
          refine gx_get C (i := 5) (isMS_in hWi 0 (Nat.le_of_ble_eq_true rfl)) (isMS_0 hWi) rfl in_X7_put__7 (by decide) fl_X7_put__23 rfl dX7_put__133 ?_
          refine gx_aload_n (q := 0) C dX7_put__136 rfl ?_
          refine gx_get C (i := 6) (isMS_in hWi 0 (Nat.le_of_ble_eq_true rfl)) (isMS_0 hWi) rfl in_X7_put__7 (by decide) fl_X7_put__175 rfl dX7_put__137 ?_
          refine gx_iload_n (q := 2) C dX7_put__140 rfl ?_
          refine gx_iadd C dX7_put__141 ?_
          refine gx_iconst (v := 1) C dX7_put__142 (by decide) ?_
          refine gx_isub C dX7_put__143 ?_
          refine gx_iload (q := 3) C dX7_put__144 rfl ?_
          refine gx_isub C dX7_put__146 ?_
          refine gx_lload_n (q := 1) C dX7_put__147 rfl ?_
          refine gx_bipush (v := 8) C dX7_put__148 (by decide) ?_
          refine gx_iload (q := 3) C dX7_put__150 rfl ?_
          refine gx_imul C dX7_put__152 ?_
          refine gx_lushr C dX7_put__153 ?_
          refine gx_ldc2 C wd_X7_put__k181 dX7_put__154 ?_
          refine gx_land C dX7_put__157 ?_
          refine gx_l2i C dX7_put__158 ?_
          refine gx_iastN C hD (isMS_in hWi 5 (Nat.le_of_ble_eq_true rfl)) (isMS_a4 hWi) (nSub (nSub (nAdd hn rfl) (nLit 1) (by omega)) rfl (by omega)) (by omega) (by decide) dX7_put__159 ?_
          refine gx_Su4 hWi hFi (fun f_2 hW_2 hF_2 => ?_)
          refine gx_iinc C (q := 3) (v := nI (i + 1)) [(5, _), (0, _), (1, _), (3, _)] dX7_put__160 rfl (nI_inc i) (by decide) rfl ?_
          refine gx_goto (tgt := 126) C dX7_put__163 (by decide) ?_
          exact gx_back [1, 2, 3, 0] (ih (i + 1, _) ⟨by omega, (isMS_same hW_2 (zPt_s y x n _ i hlt2 rfl rfl)), hF_2⟩ (by show zMn x 8 - (i + 1) < zMn x 8 - i; omega)) rfl (by rfl)
      · skip
        have h117 : 80 < n + zMn x 8 := Nat.lt_of_not_le (fun z => c_117 (by rw [nI_add]; exact (nI_leI (a := n + zMn x 8) (b := 80) (by omega) (by decide)).mpr z))
        refine gx_bipush (v := (-4)) C dX7_put__120 (by decide) ?_
        exact gx_iretS C hr hW (gFr_rf (f := f)) dX7_put__122 (by exact ((if_neg (bF h_103)).trans (if_pos h117)).symm) (by exact ((if_neg (bF h_103)).trans (if_pos h117)).symm)
    · skip
      have h_103 := bI1.mp c_103
      refine gx_bipush (v := (-2)) C dX7_put__106 (by decide) ?_
      exact gx_iretS C hr hW (gFr_rf (f := f)) dX7_put__108 (by exact (if_pos h_103).symm) (by exact (if_pos h_103).symm)
  · skip
    have hlt : i < 8 := Nat.lt_of_not_le (fun z => c_12 ((nI_leI (a := 8) (b := i) (by decide) (by omega)).mpr z))
    refine gx_lload_n (q := 1) C dX7_put__15 rfl ?_
    refine gx_bipush (v := 8) C dX7_put__16 (by decide) ?_
    refine gx_iload (q := 4) C dX7_put__18 rfl ?_
    refine gx_imul C dX7_put__20 ?_
    refine gx_lushr C dX7_put__21 ?_
    refine gx_ldc2 C wd_X7_put__k181 dX7_put__22 ?_
    refine gx_land C dX7_put__25 ?_
    refine gx_l2i C dX7_put__26 ?_
    refine gx_istore C [(6, _), (0, _), (1, _), (3, _), (4, _), (5, _)] dX7_put__27 (by decide) rfl ?_
    refine gx_iload (q := 5) C dX7_put__29 rfl ?_
    refine gx_if_le (tgt := 50) C dX7_put__31 (by decide) (fun c_31 => ?_) (fun c_31 => ?_)
    · skip
      have hi0 : i = 0 := Nat.le_zero.mp ((nI_leI (a := i) (b := 0) (by omega) (by decide)).mp c_31)
      refine gx_iconst (v := 0) C dX7_put__50 (by decide) ?_
      have hE : zEd x i = false := by simp [zEd, hi0]
      refine gx_istore C [(7, _), (6, _), (0, _), (1, _), (3, _), (4, _), (5, _)] dX7_put__51 (by decide) rfl ?_
      refine gx_iload (q := 5) C dX7_put__53 rfl ?_
      refine gx_if_ne (tgt := 75) C dX7_put__55 (by decide) (fun c_55 => ?_) (fun c_55 => ?_)
      · skip
        have h_55 := bI1.mp c_55
        refine gx_iconst (v := 1) C dX7_put__75 (by decide) ?_
        refine gx_goto (tgt := 80) C dX7_put__76 (by decide) ?_
        have hB : zBd x (i + 1) = true := by simp [zBd, hE, h_55]
        refine gx_top (bI (zBd x (i + 1))) (by rw [hB]; rfl) ?_
        refine gx_istore C [(4, _), (7, _), (6, _), (0, _), (1, _), (3, _), (5, _)] dX7_put__80 (by decide) rfl ?_
        refine gx_iload_n (q := 5) C dX7_put__82 rfl ?_
        refine gx_iload (q := 1) C dX7_put__83 rfl ?_
        refine gx_if_eq (tgt := 92) C dX7_put__85 (by decide) (fun c_85 => ?_) (fun c_85 => ?_)
        refine gx_iconst (v := 1) C dX7_put__92 (by decide) ?_
        refine gx_iadd C dX7_put__93 ?_
        refine gx_top (nI (zMn x (i + 1))) (by rw [zMn_f hE]; exact (nAdd rfl (nLit 1))) ?_
        refine gx_istore_n C (i := 3) [(3, _), (4, _), (7, _), (6, _), (0, _), (1, _), (5, _)] dX7_put__94 rfl (by decide) rfl ?_
        refine gx_iinc C (q := 6) (v := nI (i + 1)) [(5, _), (3, _), (4, _), (7, _), (6, _), (0, _), (1, _)] dX7_put__95 rfl (nI_inc i) (by decide) rfl ?_
        refine gx_goto (tgt := 8) C dX7_put__98 (by decide) ?_
        exact gx_back [5, 6, 1, 2, 0] (ih (i + 1) (by omega) (by omega)) rfl (by rfl)
        exact absurd (by decide) c_85
      · skip
        have h_55 := bI0.mp c_55
        refine gx_iload (q := 0) C dX7_put__58 rfl ?_
        refine gx_if_ne (tgt := 79) C dX7_put__60 (by decide) (fun c_60 => ?_) (fun c_60 => ?_)
        exact absurd (by decide) c_60
        refine gx_iload (q := 1) C dX7_put__63 rfl ?_
        refine gx_bipush (v := 33) C dX7_put__65 (by decide) ?_
        refine gx_bipush (v := 126) C dX7_put__67 (by decide) ?_
        refine gx_callRS C (k_X7_in l (k := k) (L := L) _ _ _) (va_cwS 3 C.2.2.2.2.1 gX7_put__X7_in rfl rfl rfl kdN_X7_in ⟨Nat.le_of_ble_eq_true rfl, Nat.le_of_ble_eq_true rfl⟩) rfl rfl (Nat.le_of_ble_eq_true rfl) ⟨Nat.le_of_ble_eq_true rfl, Nat.le_of_ble_eq_true rfl⟩ dX7_put__69 ?_
        refine gx_if_ne (tgt := 79) C dX7_put__72 (by decide) (fun c_72 => ?_) (fun c_72 => ?_)
        · skip
          have h_72 := bI1.mp c_72
          have h_72 : isW (cIn x (nI i)) 33 126 = true := h_72
          refine gx_iconst (v := 0) C dX7_put__79 (by decide) ?_
          have hB : zBd x (i + 1) = false := by simp [zBd, hE, h_55, h_72]
          refine gx_top (bI (zBd x (i + 1))) (by rw [hB]; rfl) ?_
          refine gx_istore C [(4, _), (7, _), (6, _), (0, _), (1, _), (3, _), (5, _)] dX7_put__80 (by decide) rfl ?_
          refine gx_iload_n (q := 5) C dX7_put__82 rfl ?_
          refine gx_iload (q := 1) C dX7_put__83 rfl ?_
          refine gx_if_eq (tgt := 92) C dX7_put__85 (by decide) (fun c_85 => ?_) (fun c_85 => ?_)
          refine gx_iconst (v := 1) C dX7_put__92 (by decide) ?_
          refine gx_iadd C dX7_put__93 ?_
          refine gx_top (nI (zMn x (i + 1))) (by rw [zMn_f hE]; exact (nAdd rfl (nLit 1))) ?_
          refine gx_istore_n C (i := 3) [(3, _), (4, _), (7, _), (6, _), (0, _), (1, _), (5, _)] dX7_put__94 rfl (by decide) rfl ?_
          refine gx_iinc C (q := 6) (v := nI (i + 1)) [(5, _), (3, _), (4, _), (7, _), (6, _), (0, _), (1, _)] dX7_put__95 rfl (nI_inc i) (by decide) rfl ?_
          refine gx_goto (tgt := 8) C dX7_put__98 (by decide) ?_
          exact gx_back [5, 6, 1, 2, 0] (ih (i + 1) (by omega) (by omega)) rfl (by rfl)
          exact absurd (by decide) c_85
        · skip
          have h_72 := bI0.mp c_72
          have h_72 : isW (cIn x (nI i)) 33 126 = false := h_72
          refine gx_iconst (v := 1) C dX7_put__75 (by decide) ?_
          refine gx_goto (tgt := 80) C dX7_put__76 (by decide) ?_
          have hB : zBd x (i + 1) = true := by simp [zBd, hE, h_55, h_72]
          refine gx_top (bI (zBd x (i + 1))) (by rw [hB]; rfl) ?_
          refine gx_istore C [(4, _), (7, _), (6, _), (0, _), (1, _), (3, _), (5, _)] dX7_put__80 (by decide) rfl ?_
          refine gx_iload_n (q := 5) C dX7_put__82 rfl ?_
          refine gx_iload (q := 1) C dX7_put__83 rfl ?_
          refine gx_if_eq (tgt := 92) C dX7_put__85 (by decide) (fun c_85 => ?_) (fun c_85 => ?_)
          refine gx_iconst (v := 1) C dX7_put__92 (by decide) ?_
          refine gx_iadd C dX7_put__93 ?_
          refine gx_top (nI (zMn x (i + 1))) (by rw [zMn_f hE]; exact (nAdd rfl (nLit 1))) ?_
          refine gx_istore_n C (i := 3) [(3, _), (4, _), (7, _), (6, _), (0, _), (1, _), (5, _)] dX7_put__94 rfl (by decide) rfl ?_
          refine gx_iinc C (q := 6) (v := nI (i + 1)) [(5, _), (3, _), (4, _), (7, _), (6, _), (0, _), (1, _)] dX7_put__95 rfl (nI_inc i) (by decide) rfl ?_
          refine gx_goto (tgt := 8) C dX7_put__98 (by decide) ?_
          exact gx_back [5, 6, 1, 2, 0] (ih (i + 1) (by omega) (by omega)) rfl (by rfl)
          exact absurd (by decide) c_85
    · skip
      have hi0 : 0 < i := Nat.pos_of_ne_zero (fun z => c_31 (by rw [z]; decide))
      refine gx_lload_n (q := 2) C dX7_put__34 rfl ?_
      refine gx_bipush (v := 8) C dX7_put__35 (by decide) ?_
      refine gx_iload (q := 5) C dX7_put__37 rfl ?_
      refine gx_imul C dX7_put__39 ?_
      refine gx_lushr C dX7_put__40 ?_
      refine gx_lconst (v := 0) C dX7_put__41 (by decide) ?_
      refine gx_lcmp C dX7_put__42 ?_
      refine gx_if_ne (tgt := 50) C dX7_put__43 (by decide) (fun c_43 => ?_) (fun c_43 => ?_)
      · skip
        refine gx_iconst (v := 0) C dX7_put__50 (by decide) ?_
        have hE : zEd x i = false := by simp [zEd, c_43]
        refine gx_istore C [(7, _), (6, _), (0, _), (1, _), (3, _), (4, _), (5, _)] dX7_put__51 (by decide) rfl ?_
        refine gx_iload (q := 5) C dX7_put__53 rfl ?_
        refine gx_if_ne (tgt := 75) C dX7_put__55 (by decide) (fun c_55 => ?_) (fun c_55 => ?_)
        · skip
          have h_55 := bI1.mp c_55
          refine gx_iconst (v := 1) C dX7_put__75 (by decide) ?_
          refine gx_goto (tgt := 80) C dX7_put__76 (by decide) ?_
          have hB : zBd x (i + 1) = true := by simp [zBd, hE, h_55]
          refine gx_top (bI (zBd x (i + 1))) (by rw [hB]; rfl) ?_
          refine gx_istore C [(4, _), (7, _), (6, _), (0, _), (1, _), (3, _), (5, _)] dX7_put__80 (by decide) rfl ?_
          refine gx_iload_n (q := 5) C dX7_put__82 rfl ?_
          refine gx_iload (q := 1) C dX7_put__83 rfl ?_
          refine gx_if_eq (tgt := 92) C dX7_put__85 (by decide) (fun c_85 => ?_) (fun c_85 => ?_)
          refine gx_iconst (v := 1) C dX7_put__92 (by decide) ?_
          refine gx_iadd C dX7_put__93 ?_
          refine gx_top (nI (zMn x (i + 1))) (by rw [zMn_f hE]; exact (nAdd rfl (nLit 1))) ?_
          refine gx_istore_n C (i := 3) [(3, _), (4, _), (7, _), (6, _), (0, _), (1, _), (5, _)] dX7_put__94 rfl (by decide) rfl ?_
          refine gx_iinc C (q := 6) (v := nI (i + 1)) [(5, _), (3, _), (4, _), (7, _), (6, _), (0, _), (1, _)] dX7_put__95 rfl (nI_inc i) (by decide) rfl ?_
          refine gx_goto (tgt := 8) C dX7_put__98 (by decide) ?_
          exact gx_back [5, 6, 1, 2, 0] (ih (i + 1) (by omega) (by omega)) rfl (by rfl)
          exact absurd (by decide) c_85
        · skip
          have h_55 := bI0.mp c_55
          refine gx_iload (q := 0) C dX7_put__58 rfl ?_
          refine gx_if_ne (tgt := 79) C dX7_put__60 (by decide) (fun c_60 => ?_) (fun c_60 => ?_)
          exact absurd (by decide) c_60
          refine gx_iload (q := 1) C dX7_put__63 rfl ?_
          refine gx_bipush (v := 33) C dX7_put__65 (by decide) ?_
          refine gx_bipush (v := 126) C dX7_put__67 (by decide) ?_
          refine gx_callRS C (k_X7_in l (k := k) (L := L) _ _ _) (va_cwS 3 C.2.2.2.2.1 gX7_put__X7_in rfl rfl rfl kdN_X7_in ⟨Nat.le_of_ble_eq_true rfl, Nat.le_of_ble_eq_true rfl⟩) rfl rfl (Nat.le_of_ble_eq_true rfl) ⟨Nat.le_of_ble_eq_true rfl, Nat.le_of_ble_eq_true rfl⟩ dX7_put__69 ?_
          refine gx_if_ne (tgt := 79) C dX7_put__72 (by decide) (fun c_72 => ?_) (fun c_72 => ?_)
          · skip
            have h_72 := bI1.mp c_72
            have h_72 : isW (cIn x (nI i)) 33 126 = true := h_72
            refine gx_iconst (v := 0) C dX7_put__79 (by decide) ?_
            have hB : zBd x (i + 1) = false := by simp [zBd, hE, h_55, h_72]
            refine gx_top (bI (zBd x (i + 1))) (by rw [hB]; rfl) ?_
            refine gx_istore C [(4, _), (7, _), (6, _), (0, _), (1, _), (3, _), (5, _)] dX7_put__80 (by decide) rfl ?_
            refine gx_iload_n (q := 5) C dX7_put__82 rfl ?_
            refine gx_iload (q := 1) C dX7_put__83 rfl ?_
            refine gx_if_eq (tgt := 92) C dX7_put__85 (by decide) (fun c_85 => ?_) (fun c_85 => ?_)
            refine gx_iconst (v := 1) C dX7_put__92 (by decide) ?_
            refine gx_iadd C dX7_put__93 ?_
            refine gx_top (nI (zMn x (i + 1))) (by rw [zMn_f hE]; exact (nAdd rfl (nLit 1))) ?_
            refine gx_istore_n C (i := 3) [(3, _), (4, _), (7, _), (6, _), (0, _), (1, _), (5, _)] dX7_put__94 rfl (by decide) rfl ?_
            refine gx_iinc C (q := 6) (v := nI (i + 1)) [(5, _), (3, _), (4, _), (7, _), (6, _), (0, _), (1, _)] dX7_put__95 rfl (nI_inc i) (by decide) rfl ?_
            refine gx_goto (tgt := 8) C dX7_put__98 (by decide) ?_
            exact gx_back [5, 6, 1, 2, 0] (ih (i + 1) (by omega) (by omega)) rfl (by rfl)
            exact absurd (by decide) c_85
          · skip
            have h_72 := bI0.mp c_72
            have h_72 : isW (cIn x (nI i)) 33 126 = false := h_72
            refine gx_iconst (v := 1) C dX7_put__75 (by decide) ?_
            refine gx_goto (tgt := 80) C dX7_put__76 (by decide) ?_
            have hB : zBd x (i + 1) = true := by simp [zBd, hE, h_55, h_72]
            refine gx_top (bI (zBd x (i + 1))) (by rw [hB]; rfl) ?_
            refine gx_istore C [(4, _), (7, _), (6, _), (0, _), (1, _), (3, _), (5, _)] dX7_put__80 (by decide) rfl ?_
            refine gx_iload_n (q := 5) C dX7_put__82 rfl ?_
            refine gx_iload (q := 1) C dX7_put__83 rfl ?_
            refine gx_if_eq (tgt := 92) C dX7_put__85 (by decide) (fun c_85 => ?_) (fun c_85 => ?_)
            refine gx_iconst (v := 1) C dX7_put__92 (by decide) ?_
            refine gx_iadd C dX7_put__93 ?_
            refine gx_top (nI (zMn x (i + 1))) (by rw [zMn_f hE]; exact (nAdd rfl (nLit 1))) ?_
            refine gx_istore_n C (i := 3) [(3, _), (4, _), (7, _), (6, _), (0, _), (1, _), (5, _)] dX7_put__94 rfl (by decide) rfl ?_
            refine gx_iinc C (q := 6) (v := nI (i + 1)) [(5, _), (3, _), (4, _), (7, _), (6, _), (0, _), (1, _)] dX7_put__95 rfl (nI_inc i) (by decide) rfl ?_
            refine gx_goto (tgt := 8) C dX7_put__98 (by decide) ?_
            exact gx_back [5, 6, 1, 2, 0] (ih (i + 1) (by omega) (by omega)) rfl (by rfl)
            exact absurd (by decide) c_85
      · skip
        refine gx_iconst (v := 1) C dX7_put__46 (by decide) ?_
        refine gx_goto (tgt := 51) C dX7_put__47 (by decide) ?_
        have hE : zEd x i = true := by simp [zEd, hi0, c_43]
        refine gx_istore C [(7, _), (6, _), (0, _), (1, _), (3, _), (4, _), (5, _)] dX7_put__51 (by decide) rfl ?_
        refine gx_iload (q := 5) C dX7_put__53 rfl ?_
        refine gx_if_ne (tgt := 75) C dX7_put__55 (by decide) (fun c_55 => ?_) (fun c_55 => ?_)
        · skip
          have h_55 := bI1.mp c_55
          refine gx_iconst (v := 1) C dX7_put__75 (by decide) ?_
          refine gx_goto (tgt := 80) C dX7_put__76 (by decide) ?_
          have hB : zBd x (i + 1) = true := by simp [zBd, hE, h_55]
          refine gx_top (bI (zBd x (i + 1))) (by rw [hB]; rfl) ?_
          refine gx_istore C [(4, _), (7, _), (6, _), (0, _), (1, _), (3, _), (5, _)] dX7_put__80 (by decide) rfl ?_
          refine gx_iload_n (q := 5) C dX7_put__82 rfl ?_
          refine gx_iload (q := 1) C dX7_put__83 rfl ?_
          refine gx_if_eq (tgt := 92) C dX7_put__85 (by decide) (fun c_85 => ?_) (fun c_85 => ?_)
          exact absurd c_85 (by decide)
          refine gx_iconst (v := 0) C dX7_put__88 (by decide) ?_
          refine gx_goto (tgt := 93) C dX7_put__89 (by decide) ?_
          refine gx_iadd C dX7_put__93 ?_
          refine gx_top (nI (zMn x (i + 1))) (by rw [zMn_t hE]; exact (nAdd rfl (nLit 0))) ?_
          refine gx_istore_n C (i := 3) [(3, _), (4, _), (7, _), (6, _), (0, _), (1, _), (5, _)] dX7_put__94 rfl (by decide) rfl ?_
          refine gx_iinc C (q := 6) (v := nI (i + 1)) [(5, _), (3, _), (4, _), (7, _), (6, _), (0, _), (1, _)] dX7_put__95 rfl (nI_inc i) (by decide) rfl ?_
          refine gx_goto (tgt := 8) C dX7_put__98 (by decide) ?_
          exact gx_back [5, 6, 1, 2, 0] (ih (i + 1) (by omega) (by omega)) rfl (by rfl)
        · skip
          have h_55 := bI0.mp c_55
          refine gx_iload (q := 0) C dX7_put__58 rfl ?_
          refine gx_if_ne (tgt := 79) C dX7_put__60 (by decide) (fun c_60 => ?_) (fun c_60 => ?_)
          refine gx_iconst (v := 0) C dX7_put__79 (by decide) ?_
          have hB : zBd x (i + 1) = false := by simp [zBd, hE, h_55]
          refine gx_top (bI (zBd x (i + 1))) (by rw [hB]; rfl) ?_
          refine gx_istore C [(4, _), (7, _), (6, _), (0, _), (1, _), (3, _), (5, _)] dX7_put__80 (by decide) rfl ?_
          refine gx_iload_n (q := 5) C dX7_put__82 rfl ?_
          refine gx_iload (q := 1) C dX7_put__83 rfl ?_
          refine gx_if_eq (tgt := 92) C dX7_put__85 (by decide) (fun c_85 => ?_) (fun c_85 => ?_)
          exact absurd c_85 (by decide)
          refine gx_iconst (v := 0) C dX7_put__88 (by decide) ?_
          refine gx_goto (tgt := 93) C dX7_put__89 (by decide) ?_
          refine gx_iadd C dX7_put__93 ?_
          refine gx_top (nI (zMn x (i + 1))) (by rw [zMn_t hE]; exact (nAdd rfl (nLit 0))) ?_
          refine gx_istore_n C (i := 3) [(3, _), (4, _), (7, _), (6, _), (0, _), (1, _), (5, _)] dX7_put__94 rfl (by decide) rfl ?_
          refine gx_iinc C (q := 6) (v := nI (i + 1)) [(5, _), (3, _), (4, _), (7, _), (6, _), (0, _), (1, _)] dX7_put__95 rfl (nI_inc i) (by decide) rfl ?_
          refine gx_goto (tgt := 8) C dX7_put__98 (by decide) ?_
          exact gx_back [5, 6, 1, 2, 0] (ih (i + 1) (by omega) (by omega)) rfl (by rfl)
          exact absurd c_60 (by decide)
