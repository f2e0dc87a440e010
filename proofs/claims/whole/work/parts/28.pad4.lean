theorem kdN_X2_codeIn : yX2_codeIn.cls ≠ "java/lang/invoke/MethodHandle" ∧ yX2_codeIn.cls ≠ "java/lang/invoke/VarHandle" ∧ (parseMethodDescriptor yX2_codeIn.desc).map (fun d => d.parameters.length) = some 2 := by decide +kernel
theorem kdV_X2_codeIn : yX2_codeIn.cls = RX2 ∧ yX2_codeIn.cls ≠ "java/lang/invoke/MethodHandle" ∧ yX2_codeIn.cls ≠ "java/lang/invoke/VarHandle" ∧ (parseMethodDescriptor yX2_codeIn.desc).map (fun d => d.parameters.length) = some 2 := ⟨rfl, kdN_X2_codeIn⟩
def cIn (x : Int64) (i : Int32) : Int32 := (lU x (8 * i) &&& 255).toInt32
/-- how many characters a number gives: 0 for none that may be appended -/
def chN (x : Int64) : Nat → Nat → Nat
  | _, 0 => 8
  | i, n + 1 => if cIn x (nI i) = 0 then (if lg_cmp (lU x (8 * nI i)) 0 = 0 then i else 0) else if isW (cIn x (nI i)) 33 126 = true then chN x (i + 1) n else 0
theorem chN_8 (x : Int64) : ∀ n i, i + n = 8 → chN x i n ≤ 8
  | 0, _, _ => Nat.le_refl 8
  | n + 1, i, h => by
    unfold chN
    split
    · split
      · omega
      · omega
    · split
      · exact chN_8 x n (i + 1) (by omega)
      · omega
abbrev chM (x : Int64) : Nat := chN x 0 8
theorem wd_X2_codeIn_k39 : Cond.constantLong RX2 39 (255) ∈ wsX2_codeIn := by decide +kernel
abbrev rmX2_codeIn : Room := { frames := 0, cells := 0, slots := 0, locals := 0 }
set_option maxHeartbeats 4000000 in
set_option maxRecDepth 100000 in
theorem k_X2_codeIn (l : Launch) {k : gK} {L : List Nat} {f : Nat → va_E}  (x : Int64) (i : Int32) : kR l k L f yX2_codeIn wsX2_codeIn rmX2_codeIn [.long x, .int i] (.int (cIn x i)) := by
  refine kR_of (cc := cX2_codeIn) (maxL := 3) (ret := (some .int)) (by decide) rfl (Nat.le_of_ble_eq_true rfl) ?_
  intro p e s m args below meth c C hr
  refine gx_lv [(0, _), (2, _)] [0, 1] rfl ?_
  refine gx_lload_n (q := 0) C dX2_codeIn_0 rfl ?_
  refine gx_bipush (v := 8) C dX2_codeIn_1 (by decide) ?_
  refine gx_iload_n (q := 1) C dX2_codeIn_3 rfl ?_
  refine gx_imul C dX2_codeIn_4 ?_
  refine gx_lushr C dX2_codeIn_5 ?_
  refine gx_ldc2 C wd_X2_codeIn_k39 dX2_codeIn_6 ?_
  refine gx_land C dX2_codeIn_9 ?_
  refine gx_l2i C dX2_codeIn_10 ?_
  exact gx_iretR C rfl hr dX2_codeIn_11 (congrArg Value.int (by rfl))
theorem kdN_X2_charactersIn : yX2_charactersIn.cls ≠ "java/lang/invoke/MethodHandle" ∧ yX2_charactersIn.cls ≠ "java/lang/invoke/VarHandle" ∧ (parseMethodDescriptor yX2_charactersIn.desc).map (fun d => d.parameters.length) = some 1 := by decide +kernel
theorem kdV_X2_charactersIn : yX2_charactersIn.cls = RX2 ∧ yX2_charactersIn.cls ≠ "java/lang/invoke/MethodHandle" ∧ yX2_charactersIn.cls ≠ "java/lang/invoke/VarHandle" ∧ (parseMethodDescriptor yX2_charactersIn.desc).map (fun d => d.parameters.length) = some 1 := ⟨rfl, kdN_X2_charactersIn⟩
theorem wd_X2_charactersIn_ini_RX6 : Cond.initialized RX6 ∈ wsX2_charactersIn := by decide +kernel
theorem wd_X2_charactersIn_st_X6_isWithin : Cond.static yX6_isWithin ∈ wsX2_charactersIn := by decide +kernel
abbrev rmX2_charactersIn : Room := { frames := 1, cells := 0, slots := 0, locals := 22 }
set_option maxHeartbeats 4000000 in
set_option maxRecDepth 100000 in
theorem k_X2_charactersIn (l : Launch) {k : gK} {L : List Nat} {f : Nat → va_E}  (x : Int64) : kR l k L f yX2_charactersIn wsX2_charactersIn rmX2_charactersIn [.long x] (.int (nI (chM x))) := by
  refine kR_of (cc := cX2_charactersIn) (maxL := 4) (ret := (some .int)) (by decide) rfl (Nat.le_of_ble_eq_true rfl) ?_
  intro p e s m args below meth c C hr
  refine gx_lv [(0, _)] [0] rfl ?_
  refine gx_iconst (v := 0) C dX2_charactersIn_0 (by decide) ?_
  refine gx_istore_n C (i := 2) [(2, _), (0, _)] dX2_charactersIn_1 rfl (by decide) rfl ?_
  refine gx_loop (σ := Nat) (fun i => f) (fun i => [(0, .long x), (2, .int (nI i))]) (fun i => i ≤ 8 ∧ chN x i (8 - i) = chM x) (fun i => 8 - i) 0 [1, 0] rfl rfl ?_ ?_
  · exact ⟨by decide, rfl⟩
  intro i hI ih
  try dsimp only at hI ih ⊢
  refine gx_iload_n (q := 1) C dX2_charactersIn_2 rfl ?_
  refine gx_bipush (v := 8) C dX2_charactersIn_3 (by decide) ?_
  refine gx_icmp_ge (tgt := 54) C dX2_charactersIn_5 (by decide) (fun c_5 => ?_) (fun c_5 => ?_)
  · skip
    have hb := (nI_leI (a := 8) (b := i) (by decide) (by omega)).mp c_5
    refine gx_bipush (v := 8) C dX2_charactersIn_54 (by decide) ?_
    exact gx_iretR C rfl hr dX2_charactersIn_56 (congrArg Value.int (by rw [← hI.2, show 8 - i = 0 by omega]; rfl))
  · skip
    have hlt : i < 8 := Nat.lt_of_not_le (fun z => c_5 ((nI_leI (a := 8) (b := i) (by decide) (by omega)).mpr z))
    obtain ⟨n, hn⟩ : ∃ n, 8 - i = n + 1 := ⟨7 - i, by omega⟩
    have h2 := hI.2
    rw [hn] at h2
    refine gx_lload_n (q := 0) C dX2_charactersIn_8 rfl ?_
    refine gx_iload_n (q := 1) C dX2_charactersIn_9 rfl ?_
    refine gx_callRS C (k_X2_codeIn l (k := k) (L := L) _ _) (va_cwS 2 C.2.2.2.2.1 gX2_charactersIn_X2_codeIn rfl rfl rfl kdN_X2_codeIn ⟨Nat.le_of_ble_eq_true rfl, Nat.le_of_ble_eq_true rfl⟩) rfl rfl (Nat.le_of_ble_eq_true rfl) ⟨Nat.le_of_ble_eq_true rfl, Nat.le_of_ble_eq_true rfl⟩ dX2_charactersIn_10 ?_
    refine gx_istore_n C (i := 3) [(3, _), (0, _), (2, _)] dX2_charactersIn_13 rfl (by decide) rfl ?_
    refine gx_iload_n (q := 0) C dX2_charactersIn_14 rfl ?_
    refine gx_if_ne (tgt := 35) C dX2_charactersIn_15 (by decide) (fun c_15 => ?_) (fun c_15 => ?_)
    · skip
      refine gx_iload_n (q := 0) C dX2_charactersIn_35 rfl ?_
      refine gx_bipush (v := 33) C dX2_charactersIn_36 (by decide) ?_
      refine gx_bipush (v := 126) C dX2_charactersIn_38 (by decide) ?_
      refine gx_callRN C (k_X6_isWithin l (k := k) (L := L) _ _ _) ⟨va_cnB 3 C.2.2.2.2.1 gX2_charactersIn_X6_isWithin_n41 rfl rfl rfl (C.2.2.2.2.2.1.2.2 (RX2, 41, yX6_isWithin) (by decide +kernel)) (C.2.2.2.2.1 _ wd_X2_charactersIn_ini_RX6) kdN_X6_isWithin ⟨Nat.le_of_ble_eq_true rfl, Nat.le_of_ble_eq_true rfl⟩, C.2.2.2.2.1 _ wd_X2_charactersIn_st_X6_isWithin, trivial⟩ rfl rfl (Nat.le_of_ble_eq_true rfl) ⟨Nat.le_of_ble_eq_true rfl, Nat.le_of_ble_eq_true rfl⟩ dX2_charactersIn_40 ?_
      refine gx_if_ne (tgt := 48) C dX2_charactersIn_43 (by decide) (fun c_43 => ?_) (fun c_43 => ?_)
      · skip
        have h_43 := bI1.mp c_43
        refine gx_iinc C (q := 2) (v := nI (i + 1)) [(2, _), (3, _), (0, _)] dX2_charactersIn_48 rfl (nI_inc i) (by decide) rfl ?_
        refine gx_goto (tgt := 2) C dX2_charactersIn_51 (by decide) ?_
        rw [show chN x i (n + 1) = chN x (i + 1) n from (if_neg c_15).trans (if_pos h_43)] at h2
        exact gx_back [2, 0] (ih (i + 1) ⟨by omega, by rw [show 8 - (i + 1) = n by omega]; exact h2⟩ (by omega)) rfl (by rfl)
      · skip
        have h_43 := bI0.mp c_43
        refine gx_iconst (v := 0) C dX2_charactersIn_46 (by decide) ?_
        exact gx_iretR C rfl hr dX2_charactersIn_47 (congrArg Value.int (by rw [← h2, show chN x i (n + 1) = 0 from (if_neg c_15).trans (if_neg (bF h_43))]; rfl))
    · skip
      refine gx_lload_n (q := 1) C dX2_charactersIn_18 rfl ?_
      refine gx_bipush (v := 8) C dX2_charactersIn_19 (by decide) ?_
      refine gx_iload_n (q := 2) C dX2_charactersIn_21 rfl ?_
      refine gx_imul C dX2_charactersIn_22 ?_
      refine gx_lushr C dX2_charactersIn_23 ?_
      refine gx_lconst (v := 0) C dX2_charactersIn_24 (by decide) ?_
      refine gx_lcmp C dX2_charactersIn_25 ?_
      refine gx_if_ne (tgt := 33) C dX2_charactersIn_26 (by decide) (fun c_26 => ?_) (fun c_26 => ?_)
      · skip
        refine gx_iconst (v := 0) C dX2_charactersIn_33 (by decide) ?_
        exact gx_iretR C rfl hr dX2_charactersIn_34 (congrArg Value.int (by rw [← h2, show chN x i (n + 1) = 0 from (if_pos c_15).trans (if_neg c_26)]; rfl))
      · skip
        refine gx_iload_n (q := 2) C dX2_charactersIn_29 rfl ?_
        refine gx_goto (tgt := 34) C dX2_charactersIn_30 (by decide) ?_
        exact gx_iretR C rfl hr dX2_charactersIn_34 (congrArg Value.int (by rw [← h2, show chN x i (n + 1) = i from (if_pos c_15).trans (if_pos c_26)]))
theorem kdN_X2_append : yX2_append.cls ≠ "java/lang/invoke/MethodHandle" ∧ yX2_append.cls ≠ "java/lang/invoke/VarHandle" ∧ (parseMethodDescriptor yX2_append.desc).map (fun d => d.parameters.length) = some 1 := by decide +kernel
theorem kdV_X2_append : yX2_append.cls = RX2 ∧ yX2_append.cls ≠ "java/lang/invoke/MethodHandle" ∧ yX2_append.cls ≠ "java/lang/invoke/VarHandle" ∧ (parseMethodDescriptor yX2_append.desc).map (fun d => d.parameters.length) = some 1 := ⟨rfl, kdN_X2_append⟩
def dAp (q : DS) (x : Int64) (n m j : Nat) : DS := (va_up q.1 0 (fun i => if n ≤ i ∧ i < n + j then cIn x (nI (m - 1 - (i - n))) else q.1 0 i), va_up q.2 0 (nI (n + j)))
theorem dAp_0 {q : DS} {x : Int64} {n m : Nat} (h : q.2 0 = nI n) : dAp q x n m 0 = q := by
  unfold dAp
  rw [Nat.add_zero, va_up_id (f := q.2) h, show (fun i => if n ≤ i ∧ i < n then cIn x (nI (m - 1 - (i - n))) else q.1 0 i) = q.1 0 from funext (fun i => if_neg (by omega)), va_up_id (f := q.1) rfl]
theorem dAp_s {q : DS} {x : Int64} {n m j : Nat} {c v : Int32} {ii : Nat} (hi : ii = n + j) (hc : c = cIn x (nI (m - 1 - j))) (hv : v = nI (n + (j + 1))) : dAp q x n m (j + 1) = dSc (dRow (dAp q x n m j) 0 (upd ((dAp q x n m j).1 0) ii c)) 0 v := by
  subst hi; subst hc; subst hv
  show (va_up q.1 0 _, va_up q.2 0 _) = (va_up (va_up q.1 0 _) 0 _, va_up (va_up q.2 0 _) 0 _)
  rw [va_up_2, va_up_2]
  refine congrArg (fun z => (va_up q.1 0 z, va_up q.2 0 (nI (n + (j + 1))))) (funext (fun i => ?_))
  show _ = if i = n + j then _ else (if n ≤ i ∧ i < n + j then cIn x (nI (m - 1 - (i - n))) else q.1 0 i)
  by_cases h : i = n + j
  · subst h; rw [if_pos rfl, if_pos (by omega), show n + j - n = j by omega]
  · rw [if_neg h]
    by_cases h2 : n ≤ i ∧ i < n + j
    · rw [if_pos h2, if_pos (by omega)]
    · rw [if_neg h2, if_neg (by omega)]
def apV (x : Int64) (n : Nat) : Int32 := if chM x = 0 then -2 else if 80 < n + chM x then -4 else nI (n + chM x)
def apW (q : DS) (x : Int64) (n : Nat) : DS := if chM x = 0 then q else if 80 < n + chM x then q else dAp q x n (chM x) (chM x)
theorem iM1 {a b : Nat} (h : b < a) : nI (a - b) - 1 = nI (a - 1 - b) := by rw [show (1 : Int32) = nI 1 from rfl, pk_sub (by omega), show a - b - 1 = a - 1 - b by omega]
theorem in_X2_append_2 : ∀ w ∈ u_ws RX2 TX2 7, w ∈ wsX2_append := by decide +kernel
theorem fl_X2_append_15 : Cond.fieldLink RX2 15 (TX2 1).1 (TX2 1).2.1 (TX2 1).2.2.1 ∈ wsX2_append := by decide +kernel
theorem fl_X2_append_9 : Cond.fieldLink RX2 9 (TX2 0).1 (TX2 0).2.1 (TX2 0).2.2.1 ∈ wsX2_append := by decide +kernel
abbrev rmX2_append : Room := { frames := 2, cells := 0, slots := 0, locals := 45 }
set_option maxHeartbeats 4000000 in
set_option maxRecDepth 100000 in
theorem k_X2_append (l : Launch) {k : gK} {L : List Nat} {f : Nat → va_E} (hL : L.Nodup) {d : Nat → Nat} {q : DS} {n : Nat} (hW : isDS k L f d q) (hn : q.2 0 = nI n) (hn2 : n ≤ 80) (x : Int64) : kM l k L f yX2_append wsX2_append rmX2_append [.ref (d 0), .long x] (dP k L d f (some (.int (apV x n))) (apW q x n)) := by
  refine kM_of (cc := cX2_append) (maxL := 5) (ret := (some .int)) (by decide) rfl (Nat.le_of_ble_eq_true rfl) ?_
  intro p e s m args below meth c C hr
  have hD : gD (fun q => q ∈ L) L := ⟨hL, fun _ h => h⟩
  refine gx_lv [(0, _), (1, _)] [0, 1] rfl ?_
  refine gx_lload_n (q := 1) C dX2_append_0 rfl ?_
  refine gx_callRS C (k_X2_charactersIn l (k := k) (L := L) _) (va_cwS 1 C.2.2.2.2.1 gX2_append_X2_charactersIn rfl rfl rfl kdN_X2_charactersIn ⟨Nat.le_of_ble_eq_true rfl, Nat.le_of_ble_eq_true rfl⟩) rfl rfl (Nat.le_of_ble_eq_true rfl) ⟨Nat.le_of_ble_eq_true rfl, Nat.le_of_ble_eq_true rfl⟩ dX2_append_1 ?_
  refine gx_istore_n C (i := 3) [(3, _), (0, _), (1, _)] dX2_append_4 rfl (by decide) rfl ?_
  refine gx_iload_n (q := 0) C dX2_append_5 rfl ?_
  refine gx_if_ne (tgt := 12) C dX2_append_6 (by decide) (fun c_6 => ?_) (fun c_6 => ?_)
  · skip
    have h6 : ¬ chM x = 0 := fun z => c_6 (by rw [z]; rfl)
    have hc8 : chM x ≤ 8 := chN_8 x 8 0 rfl
    refine gx_aload_n (q := 1) C dX2_append_12 rfl ?_
    refine gx_get C (i := 1) (isDS_in hW 0 (Nat.le_of_ble_eq_true rfl)) (isDS_0 hW) rfl in_X2_append_2 (by decide) fl_X2_append_15 rfl dX2_append_13 ?_
    refine gx_top (nI n) hn ?_
    refine gx_iload_n (q := 0) C dX2_append_16 rfl ?_
    refine gx_iadd C dX2_append_17 ?_
    refine gx_aload_n (q := 1) C dX2_append_18 rfl ?_
    refine gx_get C (i := 0) (isDS_in hW 0 (Nat.le_of_ble_eq_true rfl)) (isDS_0 hW) rfl in_X2_append_2 (by decide) fl_X2_append_9 rfl dX2_append_19 ?_
    refine gx_alenI C (isDS_in hW 1 (Nat.le_of_ble_eq_true rfl)) (isDS_a0 hW) dX2_append_22 ?_
    refine gx_icmp_le (tgt := 29) C dX2_append_23 (by decide) (fun c_23 => ?_) (fun c_23 => ?_)
    · skip
      have h23 : ¬ 80 < n + chM x := fun z => by have := (nI_leI (a := n + chM x) (b := 80) (by omega) (by decide)).mp (by rw [← nI_add]; exact c_23); omega
      refine gx_iload_n (q := 0) C dX2_append_29 rfl ?_
      refine gx_iconst (v := 1) C dX2_append_30 (by decide) ?_
      refine gx_isub C dX2_append_31 ?_
      refine gx_istore C [(4, _), (3, _), (0, _), (1, _)] dX2_append_32 (by decide) rfl ?_
      refine gx_loop (σ := Nat × (Nat → va_E)) (fun z => z.2) (fun z => [(0, .ref (d 0)), (1, .long x), (4, .int (nI (chM x - z.1) - 1))]) (fun z => z.1 ≤ chM x ∧ isDS k L z.2 d (dAp q x n (chM x) z.1) ∧ gFr d 2 f z.2) (fun z => chM x - z.1) (0, _) [2, 3, 0] rfl rfl ?_ ?_
      · exact ⟨Nat.zero_le _, isDS_same hW (dAp_0 hn), (gFr_rf (f := f))⟩
      intro ⟨j, fi⟩ ⟨hI, hWi, hFi⟩ ih
      try dsimp only at hI hWi hFi ih ⊢
      refine gx_iload (q := 2) C dX2_append_34 rfl ?_
      refine gx_if_lt (tgt := 89) C dX2_append_36 (by decide) (fun c_36 => ?_) (fun c_36 => ?_)
      · skip
        have hje : j = chM x := Nat.le_antisymm hI (Nat.le_of_not_lt (fun z => absurd c_36 (by rw [iM1 z]; exact nI_pos (by omega))))
        refine gx_aload_n (q := 0) C dX2_append_89 rfl ?_
        refine gx_get C (i := 1) (isDS_in hWi 0 (Nat.le_of_ble_eq_true rfl)) (isDS_0 hWi) rfl in_X2_append_2 (by decide) fl_X2_append_15 rfl dX2_append_90 ?_
        exact gx_iretD C hr hWi hFi dX2_append_93 (by exact (((if_neg h6).trans (if_neg h23)).trans (congrArg nI (congrArg (n + ·) hje.symm))).symm) (by exact (((if_neg h6).trans (if_neg h23)).trans (congrArg (dAp q x n (chM x)) hje.symm)).symm)
      · skip
        have hj : j < chM x := Nat.lt_of_le_of_ne hI (fun z => c_36 (by rw [z, Nat.sub_self]; decide))
        have iM2 : nI (chM x - j) - 1 + Int32.ofInt (-1) = nI (chM x - (j + 1)) - 1 := by rw [iM1 hj, show chM x - (j + 1) = chM x - 1 - j by omega, Int32.sub_eq_add_neg (nI (chM x - 1 - j)) 1]; rfl
        refine gx_aload_n (q := 0) C dX2_append_39 rfl ?_
        refine gx_get C (i := 1) (isDS_in hWi 0 (Nat.le_of_ble_eq_true rfl)) (isDS_0 hWi) rfl in_X2_append_2 (by decide) fl_X2_append_15 rfl dX2_append_40 ?_
        refine gx_top (nI (n + j)) rfl ?_
        refine gx_if_lt (tgt := 89) C dX2_append_43 (by decide) (fun c_43 => absurd c_43 (nI_pos (by omega))) (fun _ => ?_)
        refine gx_aload_n (q := 0) C dX2_append_46 rfl ?_
        refine gx_get C (i := 1) (isDS_in hWi 0 (Nat.le_of_ble_eq_true rfl)) (isDS_0 hWi) rfl in_X2_append_2 (by decide) fl_X2_append_15 rfl dX2_append_47 ?_
        refine gx_top (nI (n + j)) rfl ?_
        refine gx_aload_n (q := 0) C dX2_append_50 rfl ?_
        refine gx_get C (i := 0) (isDS_in hWi 0 (Nat.le_of_ble_eq_true rfl)) (isDS_0 hWi) rfl in_X2_append_2 (by decide) fl_X2_append_9 rfl dX2_append_51 ?_
        refine gx_alenI C (isDS_in hWi 1 (Nat.le_of_ble_eq_true rfl)) (isDS_a0 hWi) dX2_append_54 ?_
        refine gx_icmp_ge (tgt := 89) C dX2_append_55 (by decide) (fun c_48 => ?_) (fun c_48 => ?_)
        · skip
          exact absurd ((nI_leI (a := 80) (b := n + j) (by decide) (by omega)).mp c_48) (by omega)
        · skip
          refine gx_aload_n (q := 0) C dX2_append_58 rfl ?_
          refine gx_get C (i := 0) (isDS_in hWi 0 (Nat.le_of_ble_eq_true rfl)) (isDS_0 hWi) rfl in_X2_append_2 (by decide) fl_X2_append_9 rfl dX2_append_59 ?_
          refine gx_aload_n (q := 0) C dX2_append_62 rfl ?_
          refine gx_get C (i := 1) (isDS_in hWi 0 (Nat.le_of_ble_eq_true rfl)) (isDS_0 hWi) rfl in_X2_append_2 (by decide) fl_X2_append_15 rfl dX2_append_63 ?_
          refine gx_lload_n (q := 1) C dX2_append_66 rfl ?_
          refine gx_iload (q := 2) C dX2_append_67 rfl ?_
          refine gx_callRS C (k_X2_codeIn l (k := k) (L := L) _ _) (va_cwS 2 C.2.2.2.2.1 gX2_append_X2_codeIn rfl rfl rfl kdN_X2_codeIn ⟨Nat.le_of_ble_eq_true rfl, Nat.le_of_ble_eq_true rfl⟩) rfl rfl (Nat.le_of_ble_eq_true rfl) ⟨Nat.le_of_ble_eq_true rfl, Nat.le_of_ble_eq_true rfl⟩ dX2_append_69 ?_
          refine gx_iastN C hD (isDS_in hWi 1 (Nat.le_of_ble_eq_true rfl)) (isDS_a0 hWi) rfl (by omega) (by decide) dX2_append_72 ?_
          refine gx_Du0 hWi hFi (fun f_1 hW_1 hF_1 => ?_)
          refine gx_aload_n (q := 0) C dX2_append_73 rfl ?_
          refine gx_dup C rfl dX2_append_74 ?_
          refine gx_get C (i := 1) (isDS_in hW_1 0 (Nat.le_of_ble_eq_true rfl)) (isDS_0 hW_1) rfl in_X2_append_2 (by decide) fl_X2_append_15 rfl dX2_append_75 ?_
          refine gx_iconst (v := 1) C dX2_append_78 (by decide) ?_
          refine gx_iadd C dX2_append_79 ?_
          refine gx_put C hD (i := 1) (ty := .int) tyX2_ok nmX2 (isDS_in hW_1 0 (Nat.le_of_ble_eq_true rfl)) (isDS_0 hW_1) rfl in_X2_append_2 (by decide) fl_X2_append_15 rfl (by decide +kernel) rfl rfl (Nat.le_of_ble_eq_true rfl) rfl dX2_append_80 ?_
          refine gx_Ds0 hW_1 hF_1 (fun f_2 hW_2 hF_2 => ?_)
          refine gx_iinc C (q := 2) (v := nI (chM x - (j + 1)) - 1) [(4, _), (0, _), (1, _)] dX2_append_83 rfl iM2 (by decide) rfl ?_
          refine gx_goto (tgt := 34) C dX2_append_86 (by decide) ?_
          exact gx_back [1, 2, 0] (ih (j + 1, _) ⟨by show j + 1 ≤ chM x; omega, isDS_same hW_2 (dAp_s rfl (by rw [iM1 hj]) (nI_inc (n + j)).symm.symm), hF_2⟩ (by show chM x - (j + 1) < chM x - j; omega)) rfl rfl
    · skip
      have h23 : 80 < n + chM x := Nat.lt_of_not_le (fun z => c_23 (by rw [nI_add]; exact (nI_leI (a := n + chM x) (b := 80) (by omega) (by decide)).mpr z))
      refine gx_bipush (v := (-4)) C dX2_append_26 (by decide) ?_
      exact gx_iretD C hr hW (gFr_rf (f := f)) dX2_append_28 (by exact ((if_neg h6).trans (if_pos h23)).symm) (by exact ((if_neg h6).trans (if_pos h23)).symm)
  · skip
    have hc8 : chM x ≤ 8 := chN_8 x 8 0 rfl
    have h6 : chM x = 0 := (nI_eq (b := 0) (by omega) (by decide)).mp c_6
    refine gx_bipush (v := (-2)) C dX2_append_9 (by decide) ?_
    exact gx_iretD C hr hW (gFr_rf (f := f)) dX2_append_11 (by exact (if_pos h6).symm) (by exact (if_pos h6).symm)
