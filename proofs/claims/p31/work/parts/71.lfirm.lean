/-! the law's firings: a loop that makes an array at each turn -/
/-- the pool with one array more: all else is as it was -/
def isFw (k : gK) (L1 L2 : List Nat) (fo f : Nat → va_E) (qa : Nat) (S : Nat → Int32) : Prop := (∀ a ∈ L1 ++ L2, f a = fo a) ∧ f qa = gIA k 4 S ∧ qa ∉ L1 ++ L2
theorem fw_0 {k : gK} {L1 L2 : List Nat} {fo : Nat → va_E} {qa : Nat} {S : Nat → Int32} (h : qa ∉ L1 ++ L2) : isFw k L1 L2 fo (va_up fo qa (gIA k 4 S)) qa S := ⟨fun a ha => va_up_of _ (fun e : a = qa => h (e ▸ ha)) _, va_up_at _ _ _, h⟩
theorem fw_I {k : gK} {L1 L2 : List Nat} {fo f : Nat → va_E} {AA : Nat → Nat} {q : PS} {B : Nat → Nat} {z : ZS} {qa : Nat} {S : Nat → Int32} (hI : isLW k L1 L2 fo AA q B z) (hF : isFw k L1 L2 fo f qa S) : isLW k L1 (L2 ++ [qa]) f AA q B z := by
  refine ⟨isPN_cong hI.1 (fun a ha => hF.1 a (List.mem_append_left _ ha)), ?_, fun a ha h1 => ?_⟩
  · have h := isLA_cong hI.2.1 (f2 := f) (fun a ha => hF.1 a (List.mem_append_right _ ha))
    exact ⟨fun i hi => List.mem_append_left _ (h.1 i hi), h.2⟩
  · rcases List.mem_append.mp ha with h | h
    · exact hI.2.2 a h h1
    · exact hF.2.2 (by rw [← List.mem_singleton.mp h]; exact List.mem_append_left _ h1)
theorem fw_L {k : gK} {L1 L2 : List Nat} {fo f : Nat → va_E} {AA : Nat → Nat} {q : PS} {B : Nat → Nat} {z : ZS} {qa : Nat} {S : Nat → Int32} (hI : isLW k L1 L2 fo AA q B z) (hF : isFw k L1 L2 fo f qa S) : isLW k L1 L2 f AA q B z := ⟨isPN_cong hI.1 (fun a ha => hF.1 a (List.mem_append_left _ ha)), isLA_cong hI.2.1 (fun a ha => hF.1 a (List.mem_append_right _ ha)), hI.2.2⟩
theorem fw_ms {k : gK} {L1 L2 : List Nat} {fo f : Nat → va_E} {qa : Nat} {S : Nat → Int32} (hF : isFw k L1 L2 fo f qa S) : qa ∈ L1 ++ (L2 ++ [qa]) := List.mem_append_right _ (List.mem_append_right _ (List.mem_singleton.mpr rfl))
theorem fw_new {A : Nat → Prop} {L : List Nat} {qa : Nat} (h : gD A (L ++ [qa])) : qa ∉ L := fun hq => gD_ne h hq (List.mem_singleton.mpr rfl) rfl
section FW
variable {p : Program} {l : Launch} {e : Env} {R : Room} {s : State} {m : MethodId} {args : Array Value} {below : List Frame} {meth : Method} {c : Code} {k : gK} {nL : Nat} {rd : Prop} {A : Nat → Prop} {H0 : Heap} {Q : State → Prop} {L L1 L2 M : List Nat} {cells slots : Nat} {f : Nat → va_E} {pc : Nat} {lv : List (Nat × Value)} {st : List Value}
theorem gx_as (kk : gW p l e R s m args below meth c k nL rd A H0 Q (L1 ++ (L2 ++ M)) cells slots f pc lv st) : gW p l e R s m args below meth c k nL rd A H0 Q ((L1 ++ L2) ++ M) cells slots f pc lv st := by rw [List.append_assoc]; exact kk
theorem gx_dropR (kk : gW p l e R s m args below meth c k nL rd A H0 Q (L1 ++ L2) cells slots f pc lv st) : gW p l e R s m args below meth c k nL rd A H0 Q (L1 ++ (L2 ++ M)) cells slots f pc lv st := gx_drop (fun a ha => (List.mem_append.mp ha).elim (fun h => List.mem_append_left _ h) (fun h => List.mem_append_right _ (List.mem_append_left _ h))) kk
theorem gx_Fs {fo : Nat → va_E} {qa : Nat} {S S2 : Nat → Int32} (hF : isFw k L1 L2 fo f qa S) (kk : ∀ f2, isFw k L1 L2 fo f2 qa S2 → gW p l e R s m args below meth c k nL rd A H0 Q L cells slots f2 pc lv st) : gW p l e R s m args below meth c k nL rd A H0 Q L cells slots (va_up f qa (gIA k 4 S2)) pc lv st := kk _ ⟨fun a ha => (va_up_of _ (fun e : a = qa => hF.2.2 (e ▸ ha)) _).trans (hF.1 a ha), va_up_at _ _ _, hF.2.2⟩
/-- a loop whose turns make cells -/
theorem gx_loopC {σ : Type} (fO : σ → Nat → va_E) (lvO : σ → List (Nat × Value)) (cO sO : σ → Nat) (I : σ → Prop) (μ : σ → Nat) (q0 : σ) (ks : List Nat) (hf : f = fO q0) (hc : cells = cO q0) (hlv : lv_pick lv ks = lvO q0) (hs : slots = sO q0) (h0 : I q0) (body : ∀ q, I q → (∀ q2, I q2 → μ q2 < μ q → gW p l e R s m args below meth c k nL rd A H0 Q L (cO q2) (sO q2) (fO q2) pc (lvO q2) []) → gW p l e R s m args below meth c k nL rd A H0 Q L (cO q) (sO q) (fO q) pc (lvO q) []) : gW p l e R s m args below meth c k nL rd A H0 Q L cells slots f pc lv [] := by
  subst hf; subst hc; subst hs
  refine gx_lv (lvO q0) ks hlv ?_
  have h : ∀ n q, μ q < n → I q → gW p l e R s m args below meth c k nL rd A H0 Q L (cO q) (sO q) (fO q) pc (lvO q) [] := by
    intro n
    induction n with
    | zero => intro q h; exact absurd h (Nat.not_lt_zero _)
    | succ n ih => intro q h1 h2; exact body q h2 (fun q2 h3 h4 => ih q2 (by omega) h3)
  exact h _ q0 (Nat.lt_succ_self _) h0
end FW
section LBs
variable {a a1 a2 a3 : Int32 × Int32 × Int32} {on br : Int32} {ht : Int32}
theorem lB_n1 (h : a1 = (if a.1 < 0 then (ht, on, br) else if a.2.1 < on then (ht, on, br) else if on = a.2.1 then (if a.2.2 ≤ br then a else (ht, on, br)) else a)) (c : a.1 < 0) : a1 = (ht, on, br) := by rw [h, if_pos c]
theorem lB_n2 (h : a1 = (if a.1 < 0 then (ht, on, br) else if a.2.1 < on then (ht, on, br) else if on = a.2.1 then (if a.2.2 ≤ br then a else (ht, on, br)) else a)) (c : a.2.1 < on) : a1 = (ht, on, br) := by
  rw [h]
  by_cases c0 : a.1 < 0
  · rw [if_pos c0]
  · rw [if_neg c0, if_pos c]
theorem lB_n3 (h : a1 = (if a.1 < 0 then (ht, on, br) else if a.2.1 < on then (ht, on, br) else if on = a.2.1 then (if a.2.2 ≤ br then a else (ht, on, br)) else a)) (c1 : ¬ a.1 < 0) (c2 : ¬ a.2.1 < on) (c3 : on = a.2.1) (c4 : ¬ a.2.2 ≤ br) : a1 = (ht, on, br) := by rw [h, if_neg c1, if_neg c2, if_pos c3, if_neg c4]
theorem lB_k1 (h : a1 = (if a.1 < 0 then (ht, on, br) else if a.2.1 < on then (ht, on, br) else if on = a.2.1 then (if a.2.2 ≤ br then a else (ht, on, br)) else a)) (c1 : ¬ a.1 < 0) (c2 : ¬ a.2.1 < on) (c3 : ¬ on = a.2.1) : a1 = a := by rw [h, if_neg c1, if_neg c2, if_neg c3]
theorem lB_k2 (h : a1 = (if a.1 < 0 then (ht, on, br) else if a.2.1 < on then (ht, on, br) else if on = a.2.1 then (if a.2.2 ≤ br then a else (ht, on, br)) else a)) (c1 : ¬ a.1 < 0) (c2 : ¬ a.2.1 < on) (c3 : on = a.2.1) (c4 : a.2.2 ≤ br) : a1 = a := by rw [h, if_neg c1, if_neg c2, if_pos c3, if_pos c4]
end LBs
theorem kdN_L_areFirings : yL_areFirings.cls ≠ "java/lang/invoke/MethodHandle" ∧ yL_areFirings.cls ≠ "java/lang/invoke/VarHandle" ∧ (parseMethodDescriptor yL_areFirings.desc).map (fun d => d.parameters.length) = some 3 := by decide +kernel
theorem kdV_L_areFirings : yL_areFirings.cls = RL ∧ yL_areFirings.cls ≠ "java/lang/invoke/MethodHandle" ∧ yL_areFirings.cls ≠ "java/lang/invoke/VarHandle" ∧ (parseMethodDescriptor yL_areFirings.desc).map (fun d => d.parameters.length) = some 3 := ⟨rfl, kdN_L_areFirings⟩
theorem wd_L_areFirings_arrint : Cond.arrayClass .int ∈ wsL_areFirings := by decide +kernel
abbrev rmL_areFirings : Room := { frames := 6, cells := 61, slots := 244, locals := 135 }
set_option maxHeartbeats 4000000 in
set_option maxRecDepth 100000 in
theorem k_L_areFirings (l : Launch) {k : gK} {f : Nat → va_E} {L1 L2 : List Nat} {AA : Nat → Nat} {q : PS} {B : Nat → Nat} {z : ZS} (hL : (L1 ++ L2).Nodup) (hI : isLW k L1 L2 f AA q B z) {J n np nt x0 : Nat} {zr : Nat → Int32} (h : IV J q zr z) (hz : LZn J n np nt x0 zr z) (hJ : J ≤ 100) : kA l k (L1 ++ L2) f yL_areFirings wsL_areFirings rmL_areFirings [.ref (AA 0), .ref (B 0), .ref (B 1)] 61 244 (fun v N f2 => v = some (.int 1) ∧ ∀ a ∈ L1 ++ L2, f2 a = f a) := by
  refine kA_of (cc := cL_areFirings) (maxL := 13) (ret := (some .boolean)) hL (by decide) rfl (Nat.le_of_ble_eq_true rfl) ?_
  intro p e s m args below meth c C hr hin hAO hD
  have hA : ∀ q, s.heap.size ≤ q → q ∈ L1 ++ L2 ∨ s.heap.size ≤ q := fun _ h => Or.inr h
  have hn : z.1 7 = nI n := (hz.2.2.1 7 (by decide)).trans hz.2.1.1
  have hn2 : n ≤ 20 := hz.1.1
  refine gx_lv [(0, _), (1, _), (2, _)] [0, 1, 2] rfl ?_
  refine gx_bipush (v := (-6)) C dL_areFirings_0 (by decide) ?_
  refine gx_istore_n C (i := 3) [(3, _), (0, _), (1, _), (2, _)] dL_areFirings_2 rfl (by decide) rfl ?_
  refine gx_iconst (v := 0) C dL_areFirings_3 (by decide) ?_
  refine gx_istore C [(4, _), (3, _), (0, _), (1, _), (2, _)] dL_areFirings_4 (by decide) rfl ?_
  refine gx_iconst (v := 0) C dL_areFirings_6 (by decide) ?_
  refine gx_istore C [(5, _), (4, _), (3, _), (0, _), (1, _), (2, _)] dL_areFirings_7 (by decide) rfl ?_
  refine gx_bipush (v := 80) C dL_areFirings_9 (by decide) ?_
  refine gx_istore C [(6, _), (5, _), (4, _), (3, _), (0, _), (1, _), (2, _)] dL_areFirings_11 (by decide) rfl ?_
  refine gx_loopC (σ := Nat × (Nat → va_E)) (fun σ => σ.2) (fun σ => [(0, .ref (AA 0)), (1, .ref (B 0)), (2, .ref (B 1)), (3, .int (lB zr σ.1).1), (4, .int (lB zr σ.1).2.1), (5, .int (lB zr σ.1).2.2), (6, .int (nI (80 + σ.1)))]) (fun σ => σ.1) (fun σ => 4 * σ.1) (fun σ => σ.1 ≤ 61 ∧ isLW k L1 L2 σ.2 AA q B z ∧ ∀ a ∈ L1 ++ L2, σ.2 a = f a) (fun σ => 61 - σ.1) (0, f) [4, 5, 6, 3, 2, 1, 0] rfl rfl (by rw [lB_0]; rfl) rfl ?_ ?_
  · exact ⟨Nat.zero_le _, hI, fun _ _ => rfl⟩
  intro ⟨i, fi⟩ ⟨hi61, hI, hfo⟩ iho
  try dsimp only at hi61 hI hfo iho ⊢
  refine gx_iload (q := 6) C dL_areFirings_13 rfl ?_
  refine gx_sipush (v := 141) C dL_areFirings_15 (by decide) ?_
  refine gx_icmp_ge (tgt := 248) C dL_areFirings_18 (by decide) (fun c_18 => ?_) (fun c_18 => ?_)
  · skip
    have hi2 : i = 61 := by
      have := (nI_leI (a := 141) (b := 80 + i) (by decide) (by omega)).mp c_18
      omega
    subst hi2
    refine gx_aload_n (q := 0) C dL_areFirings_248 rfl ?_
    refine gx_callQ C hI (k_X6_bestHeat l (lw_pn hI) (IV_ok h) ) (cwV 0 C.2.2.2.2.1 gL_areFirings_X6_bestHeat rfl rfl rfl kdV_X6_bestHeat ⟨Nat.le_of_ble_eq_true rfl, Nat.le_of_ble_eq_true rfl⟩) rfl rfl (Nat.le_of_ble_eq_true rfl) ⟨Nat.le_of_ble_eq_true rfl, Nat.le_of_ble_eq_true rfl⟩ dL_areFirings_249 ?_
    refine gx_iload_n (q := 3) C dL_areFirings_252 rfl ?_
    refine gx_icmp_ne (tgt := 260) C dL_areFirings_253 (by decide) (fun c_253 => ?_) (fun c_253 => ?_)
    · skip
      exact absurd (D_best h) c_253
    · skip
      refine gx_iconst (v := 1) C dL_areFirings_256 (by decide) ?_
      refine gx_goto (tgt := 261) C dL_areFirings_257 (by decide) ?_
      exact gx_zretA C hr (Or.inr rfl) (N := []) (List.append_nil _).symm hD dL_areFirings_261 ⟨rfl, hfo⟩
  · skip
    have hlt_i : i < 61 := Nat.lt_of_not_le (fun z => c_18 ((nI_leI (a := 141) (b := 80 + i) (by decide) (by omega)).mpr (by omega)))
    refine gx_iconst (v := 4) C dL_areFirings_21 (by decide) ?_
    refine gx_newI C hD hA (N := 4) wd_L_areFirings_arrint (by decide) rfl (by decide) (by show i + 1 ≤ 61; omega) (by show 4 * i + 4 ≤ 244; omega) dL_areFirings_22 (fun qa hDq => ?_)
    refine gx_as ?_
    have hqa := fw_new hDq
    rw [List.append_assoc] at hDq
    have hF : isFw k L1 L2 fi _ qa (fun _ => 0) := fw_0 hqa
    refine gx_gen (fun f_0 hf_0 => ?_)
    rw [← hf_0] at hF
    have hD9 := hD
    have hD := hDq
    refine gx_astore C [(7, _), (0, _), (1, _), (2, _), (3, _), (4, _), (5, _), (6, _)] dL_areFirings_24 (by decide) rfl ?_
    refine gx_iconst (v := 0) C dL_areFirings_26 (by decide) ?_
    refine gx_istore C [(8, _), (7, _), (0, _), (1, _), (2, _), (3, _), (4, _), (5, _), (6, _)] dL_areFirings_27 (by decide) rfl ?_
    refine gx_iconst (v := 0) C dL_areFirings_29 (by decide) ?_
    refine gx_istore C [(9, _), (8, _), (7, _), (0, _), (1, _), (2, _), (3, _), (4, _), (5, _), (6, _)] dL_areFirings_30 (by decide) rfl ?_
    refine gx_iconst (v := 0) C dL_areFirings_32 (by decide) ?_
    refine gx_istore C [(10, _), (9, _), (8, _), (7, _), (0, _), (1, _), (2, _), (3, _), (4, _), (5, _), (6, _)] dL_areFirings_33 (by decide) rfl ?_
    refine gx_loop (σ := Nat × (Nat → va_E)) (fun σ => σ.2) (fun σ => [(0, .ref (AA 0)), (1, .ref (B 0)), (2, .ref (B 1)), (3, .int (lB zr i).1), (4, .int (lB zr i).2.1), (5, .int (lB zr i).2.2), (6, .int (nI (80 + i))), (7, .ref qa), (8, .int (cnI (fOn z.1 z.2.1 (nI (80 + i))) σ.1)), (9, .int (cnI (fBr z.1 z.2.1 (nI (80 + i))) σ.1)), (10, .int (nI σ.1))]) (fun σ => σ.1 ≤ n ∧ isFw k L1 L2 fi σ.2 qa (fun c => mk (fS z.1 z.2.1 (nI (80 + i)) c) σ.1)) (fun σ => n - σ.1) (0, f_0) [4, 5, 6, 7, 8, 9, 10, 3, 2, 1, 0] rfl rfl ?_ ?_
    · exact ⟨Nat.zero_le _, hF⟩
    intro ⟨pj, fp⟩ ⟨hpj, hFp⟩ ihp
    try dsimp only at hpj hFp ihp ⊢
    refine gx_iload (q := 10) C dL_areFirings_35 rfl ?_
    refine gx_aload_n (q := 1) C dL_areFirings_37 rfl ?_
    refine gx_bipush (v := 7) C dL_areFirings_38 (by decide) ?_
    refine gx_ialdN C (lw_mg (fw_I hI hFp)) (lw_eg (fw_I hI hFp)) (nLit 7) (by omega) (by decide) dL_areFirings_40 ?_
    refine gx_top (nI n) hn ?_
    refine gx_icmp_ge (tgt := 165) C dL_areFirings_41 (by decide) (fun c_41 => ?_) (fun c_41 => ?_)
    · skip
      have hb_pj := (nI_leI (by omega) (by omega)).mp c_41
      have hin : n = pj := by omega
      subst hin
      refine gx_iconst (v := 0) C dL_areFirings_165 (by decide) ?_
      refine gx_istore C [(10, _), (0, _), (1, _), (2, _), (3, _), (4, _), (5, _), (6, _), (7, _), (8, _), (9, _)] dL_areFirings_166 (by decide) rfl ?_
      refine gx_loop (σ := Nat) (fun wj => fp) (fun wj => [(0, .ref (AA 0)), (1, .ref (B 0)), (2, .ref (B 1)), (3, .int (lB zr i).1), (4, .int (lB zr i).2.1), (5, .int (lB zr i).2.2), (6, .int (nI (80 + i))), (7, .ref qa), (8, .int (cnI (fOn z.1 z.2.1 (nI (80 + i))) n)), (9, .int (cnI (fBr z.1 z.2.1 (nI (80 + i))) n)), (10, .int (nI wj))]) (fun wj => wj ≤ 4) (fun wj => 4 - wj) 0 [1, 2, 3, 4, 5, 6, 7, 8, 9, 10, 0] rfl rfl ?_ ?_
      · exact Nat.zero_le _
      intro wj hWj ihw
      try dsimp only at hWj ihw ⊢
      refine gx_iload (q := 10) C dL_areFirings_168 rfl ?_
      refine gx_iconst (v := 4) C dL_areFirings_170 (by decide) ?_
      refine gx_icmp_ge (tgt := 198) C dL_areFirings_171 (by decide) (fun c_171 => ?_) (fun c_171 => ?_)
      · skip
        have hb_wj := (nI_leI (a := 4) (b := wj) (by decide) (by omega)).mp c_171
        refine gx_aload_n (q := 1) C dL_areFirings_198 rfl ?_
        refine gx_aload_n (q := 2) C dL_areFirings_199 rfl ?_
        refine gx_callRS C (k_L_inKiln l (lw_mg (fw_I hI hFp)) (lw_eg (fw_I hI hFp)) (lw_mb (fw_I hI hFp)) (lw_eb (fw_I hI hFp)) hn hn2) (va_cwS 2 C.2.2.2.2.1 gL_areFirings_L_inKiln rfl rfl rfl kdN_L_inKiln ⟨Nat.le_of_ble_eq_true rfl, Nat.le_of_ble_eq_true rfl⟩) rfl rfl (Nat.le_of_ble_eq_true rfl) ⟨by show i + 1 ≤ 61; omega, by show 4 * i + 4 ≤ 244; omega⟩ dL_areFirings_200 ?_
        refine gx_if_le (tgt := 242) C dL_areFirings_203 (by decide) (fun c_203 => ?_) (fun c_203 => ?_)
        · skip
          refine gx_iinc C (q := 6) (v := nI (80 + (i + 1))) [(6, _), (0, _), (1, _), (2, _), (3, _), (4, _), (5, _), (7, _), (8, _), (9, _), (10, _)] dL_areFirings_242 rfl (nI_inc (80 + i)) (by decide) rfl ?_
          refine gx_goto (tgt := 13) C dL_areFirings_245 (by decide) ?_
          have hlb := lB_e hz (i := i) c_203
          refine gx_dropR ?_
          exact gx_back [1, 2, 3, 4, 5, 6, 0] (iho (i + 1, _) ⟨by show i + 1 ≤ 61; omega, fw_L hI hFp, fun a ha => (hFp.1 a ha).trans (hfo a ha)⟩ (by show 61 - (i + 1) < 61 - i; omega)) rfl (by show _ = [(0, _), (1, _), (2, _), (3, Value.int (lB zr (i + 1)).1), (4, Value.int (lB zr (i + 1)).2.1), (5, Value.int (lB zr (i + 1)).2.2), (6, _)]; rw [hlb]; rfl)
        · skip
          refine gx_iload_n (q := 3) C dL_areFirings_206 rfl ?_
          refine gx_if_lt (tgt := 231) C dL_areFirings_207 (by decide) (fun c_207 => ?_) (fun c_207 => ?_)
          · skip
            refine gx_iload (q := 6) C dL_areFirings_231 rfl ?_
            refine gx_istore_n C (i := 3) [(3, _), (0, _), (1, _), (2, _), (4, _), (5, _), (6, _), (7, _), (8, _), (9, _), (10, _)] dL_areFirings_233 rfl (by decide) rfl ?_
            refine gx_iload (q := 8) C dL_areFirings_234 rfl ?_
            refine gx_istore C [(4, _), (3, _), (0, _), (1, _), (2, _), (5, _), (6, _), (7, _), (8, _), (9, _), (10, _)] dL_areFirings_236 (by decide) rfl ?_
            refine gx_iload (q := 9) C dL_areFirings_238 rfl ?_
            refine gx_istore C [(5, _), (4, _), (3, _), (0, _), (1, _), (2, _), (6, _), (7, _), (8, _), (9, _), (10, _)] dL_areFirings_240 (by decide) rfl ?_
            refine gx_iinc C (q := 6) (v := nI (80 + (i + 1))) [(6, _), (5, _), (4, _), (3, _), (0, _), (1, _), (2, _), (7, _), (8, _), (9, _), (10, _)] dL_areFirings_242 rfl (nI_inc (80 + i)) (by decide) rfl ?_
            refine gx_goto (tgt := 13) C dL_areFirings_245 (by decide) ?_
            have hlb := lB_n1 (lB_s h hz (i := i) c_203) c_207
            refine gx_dropR ?_
            exact gx_back [4, 5, 6, 3, 2, 1, 0] (iho (i + 1, _) ⟨by show i + 1 ≤ 61; omega, fw_L hI hFp, fun a ha => (hFp.1 a ha).trans (hfo a ha)⟩ (by show 61 - (i + 1) < 61 - i; omega)) rfl (by show _ = [(0, _), (1, _), (2, _), (3, Value.int (lB zr (i + 1)).1), (4, Value.int (lB zr (i + 1)).2.1), (5, Value.int (lB zr (i + 1)).2.2), (6, _)]; rw [hlb]; rfl)
          · skip
            refine gx_iload (q := 8) C dL_areFirings_210 rfl ?_
            refine gx_iload (q := 4) C dL_areFirings_212 rfl ?_
            refine gx_icmp_gt (tgt := 231) C dL_areFirings_214 (by decide) (fun c_214 => ?_) (fun c_214 => ?_)
            · skip
              refine gx_iload (q := 6) C dL_areFirings_231 rfl ?_
              refine gx_istore_n C (i := 3) [(3, _), (0, _), (1, _), (2, _), (4, _), (5, _), (6, _), (7, _), (8, _), (9, _), (10, _)] dL_areFirings_233 rfl (by decide) rfl ?_
              refine gx_iload (q := 8) C dL_areFirings_234 rfl ?_
              refine gx_istore C [(4, _), (3, _), (0, _), (1, _), (2, _), (5, _), (6, _), (7, _), (8, _), (9, _), (10, _)] dL_areFirings_236 (by decide) rfl ?_
              refine gx_iload (q := 9) C dL_areFirings_238 rfl ?_
              refine gx_istore C [(5, _), (4, _), (3, _), (0, _), (1, _), (2, _), (6, _), (7, _), (8, _), (9, _), (10, _)] dL_areFirings_240 (by decide) rfl ?_
              refine gx_iinc C (q := 6) (v := nI (80 + (i + 1))) [(6, _), (5, _), (4, _), (3, _), (0, _), (1, _), (2, _), (7, _), (8, _), (9, _), (10, _)] dL_areFirings_242 rfl (nI_inc (80 + i)) (by decide) rfl ?_
              refine gx_goto (tgt := 13) C dL_areFirings_245 (by decide) ?_
              have hlb := lB_n2 (lB_s h hz (i := i) c_203) c_214
              refine gx_dropR ?_
              exact gx_back [4, 5, 6, 3, 2, 1, 0] (iho (i + 1, _) ⟨by show i + 1 ≤ 61; omega, fw_L hI hFp, fun a ha => (hFp.1 a ha).trans (hfo a ha)⟩ (by show 61 - (i + 1) < 61 - i; omega)) rfl (by show _ = [(0, _), (1, _), (2, _), (3, Value.int (lB zr (i + 1)).1), (4, Value.int (lB zr (i + 1)).2.1), (5, Value.int (lB zr (i + 1)).2.2), (6, _)]; rw [hlb]; rfl)
            · skip
              refine gx_iload (q := 8) C dL_areFirings_217 rfl ?_
              refine gx_iload (q := 4) C dL_areFirings_219 rfl ?_
              refine gx_icmp_ne (tgt := 242) C dL_areFirings_221 (by decide) (fun c_221 => ?_) (fun c_221 => ?_)
              · skip
                refine gx_iinc C (q := 6) (v := nI (80 + (i + 1))) [(6, _), (0, _), (1, _), (2, _), (3, _), (4, _), (5, _), (7, _), (8, _), (9, _), (10, _)] dL_areFirings_242 rfl (nI_inc (80 + i)) (by decide) rfl ?_
                refine gx_goto (tgt := 13) C dL_areFirings_245 (by decide) ?_
                have hlb := lB_k1 (lB_s h hz (i := i) c_203) c_207 c_214 c_221
                refine gx_dropR ?_
                exact gx_back [1, 2, 3, 4, 5, 6, 0] (iho (i + 1, _) ⟨by show i + 1 ≤ 61; omega, fw_L hI hFp, fun a ha => (hFp.1 a ha).trans (hfo a ha)⟩ (by show 61 - (i + 1) < 61 - i; omega)) rfl (by show _ = [(0, _), (1, _), (2, _), (3, Value.int (lB zr (i + 1)).1), (4, Value.int (lB zr (i + 1)).2.1), (5, Value.int (lB zr (i + 1)).2.2), (6, _)]; rw [hlb]; rfl)
              · skip
                refine gx_iload (q := 9) C dL_areFirings_224 rfl ?_
                refine gx_iload (q := 5) C dL_areFirings_226 rfl ?_
                refine gx_icmp_ge (tgt := 242) C dL_areFirings_228 (by decide) (fun c_228 => ?_) (fun c_228 => ?_)
                · skip
                  refine gx_iinc C (q := 6) (v := nI (80 + (i + 1))) [(6, _), (0, _), (1, _), (2, _), (3, _), (4, _), (5, _), (7, _), (8, _), (9, _), (10, _)] dL_areFirings_242 rfl (nI_inc (80 + i)) (by decide) rfl ?_
                  refine gx_goto (tgt := 13) C dL_areFirings_245 (by decide) ?_
                  have hlb := lB_k2 (lB_s h hz (i := i) c_203) c_207 c_214 c_221 c_228
                  refine gx_dropR ?_
                  exact gx_back [1, 2, 3, 4, 5, 6, 0] (iho (i + 1, _) ⟨by show i + 1 ≤ 61; omega, fw_L hI hFp, fun a ha => (hFp.1 a ha).trans (hfo a ha)⟩ (by show 61 - (i + 1) < 61 - i; omega)) rfl (by show _ = [(0, _), (1, _), (2, _), (3, Value.int (lB zr (i + 1)).1), (4, Value.int (lB zr (i + 1)).2.1), (5, Value.int (lB zr (i + 1)).2.2), (6, _)]; rw [hlb]; rfl)
                · skip
                  refine gx_iload (q := 6) C dL_areFirings_231 rfl ?_
                  refine gx_istore_n C (i := 3) [(3, _), (0, _), (1, _), (2, _), (4, _), (5, _), (6, _), (7, _), (8, _), (9, _), (10, _)] dL_areFirings_233 rfl (by decide) rfl ?_
                  refine gx_iload (q := 8) C dL_areFirings_234 rfl ?_
                  refine gx_istore C [(4, _), (3, _), (0, _), (1, _), (2, _), (5, _), (6, _), (7, _), (8, _), (9, _), (10, _)] dL_areFirings_236 (by decide) rfl ?_
                  refine gx_iload (q := 9) C dL_areFirings_238 rfl ?_
                  refine gx_istore C [(5, _), (4, _), (3, _), (0, _), (1, _), (2, _), (6, _), (7, _), (8, _), (9, _), (10, _)] dL_areFirings_240 (by decide) rfl ?_
                  refine gx_iinc C (q := 6) (v := nI (80 + (i + 1))) [(6, _), (5, _), (4, _), (3, _), (0, _), (1, _), (2, _), (7, _), (8, _), (9, _), (10, _)] dL_areFirings_242 rfl (nI_inc (80 + i)) (by decide) rfl ?_
                  refine gx_goto (tgt := 13) C dL_areFirings_245 (by decide) ?_
                  have hlb := lB_n3 (lB_s h hz (i := i) c_203) c_207 c_214 c_221 c_228
                  refine gx_dropR ?_
                  exact gx_back [4, 5, 6, 3, 2, 1, 0] (iho (i + 1, _) ⟨by show i + 1 ≤ 61; omega, fw_L hI hFp, fun a ha => (hFp.1 a ha).trans (hfo a ha)⟩ (by show 61 - (i + 1) < 61 - i; omega)) rfl (by show _ = [(0, _), (1, _), (2, _), (3, Value.int (lB zr (i + 1)).1), (4, Value.int (lB zr (i + 1)).2.1), (5, Value.int (lB zr (i + 1)).2.2), (6, _)]; rw [hlb]; rfl)
      · skip
        have hlt_wj : wj < 4 := Nat.lt_of_not_le (fun z => c_171 ((nI_leI (a := 4) (b := wj) (by decide) (by omega)).mpr z))
        refine gx_aload_n (q := 0) C dL_areFirings_174 rfl ?_
        refine gx_iload (q := 6) C dL_areFirings_175 rfl ?_
        refine gx_iload (q := 10) C dL_areFirings_177 rfl ?_
        refine gx_callQ C (fw_I hI hFp) (k_X6_ifFired l (lw_pn (fw_I hI hFp)) (IV_ok h) _ _) (cwV 2 C.2.2.2.2.1 gL_areFirings_X6_ifFired rfl rfl rfl kdV_X6_ifFired ⟨Nat.le_of_ble_eq_true rfl, Nat.le_of_ble_eq_true rfl⟩) rfl rfl (Nat.le_of_ble_eq_true rfl) ⟨by show i + 1 ≤ 61; omega, by show 4 * i + 4 ≤ 244; omega⟩ dL_areFirings_179 ?_
        refine gx_aload (q := 7) C dL_areFirings_182 rfl ?_
        refine gx_iload (q := 10) C dL_areFirings_184 rfl ?_
        refine gx_ialdN C (fw_ms hFp) hFp.2.1 rfl (by omega) (by decide) dL_areFirings_186 ?_
        refine gx_icmp_eq (tgt := 192) C dL_areFirings_187 (by decide) (fun c_187 => ?_) (fun c_187 => ?_)
        · skip
          refine gx_iinc C (q := 10) (v := nI (wj + 1)) [(10, _), (0, _), (1, _), (2, _), (3, _), (4, _), (5, _), (6, _), (7, _), (8, _), (9, _)] dL_areFirings_192 rfl (nI_inc wj) (by decide) rfl ?_
          refine gx_goto (tgt := 168) C dL_areFirings_195 (by decide) ?_
          exact gx_back [1, 2, 3, 4, 5, 6, 7, 8, 9, 10, 0] (ihw (wj + 1) (by omega) (by omega)) rfl (by rfl)
        · skip
          exact absurd (D_if h hz hlt_i hlt_wj) c_187
    · skip
      have hlt_pj : pj < n := Nat.lt_of_not_le (fun z => c_41 ((nI_leI (by omega) (by omega)).mpr z))
      refine gx_aload_n (q := 2) C dL_areFirings_44 rfl ?_
      refine gx_iload (q := 10) C dL_areFirings_45 rfl ?_
      refine gx_laldN C (lw_mb (fw_I hI hFp)) (lw_eb (fw_I hI hFp)) rfl (by omega) (by decide) dL_areFirings_47 ?_
      refine gx_iconst (v := 4) C dL_areFirings_48 (by decide) ?_
      refine gx_callRS C (k_L_part l (z.2.1 pj) 4) (va_cwS 2 C.2.2.2.2.1 gL_areFirings_L_part rfl rfl rfl kdN_L_part ⟨Nat.le_of_ble_eq_true rfl, Nat.le_of_ble_eq_true rfl⟩) rfl rfl (Nat.le_of_ble_eq_true rfl) ⟨by show i + 1 ≤ 61; omega, by show 4 * i + 4 ≤ 244; omega⟩ dL_areFirings_49 ?_
      refine gx_bipush (v := 24) C dL_areFirings_52 (by decide) ?_
      refine gx_icmp_eq (tgt := 60) C dL_areFirings_54 (by decide) (fun c_54 => ?_) (fun c_54 => ?_)
      · skip
        refine gx_aload_n (q := 2) C dL_areFirings_60 rfl ?_
        refine gx_iload (q := 10) C dL_areFirings_61 rfl ?_
        refine gx_laldN C (lw_mb (fw_I hI hFp)) (lw_eb (fw_I hI hFp)) rfl (by omega) (by decide) dL_areFirings_63 ?_
        refine gx_iload (q := 6) C dL_areFirings_64 rfl ?_
        refine gx_aload_n (q := 1) C dL_areFirings_66 rfl ?_
        refine gx_callRS C (k_L_then l (lw_mg (fw_I hI hFp)) (lw_eg (fw_I hI hFp)) (z.2.1 pj) (nI (80 + i))) (va_cwS 3 C.2.2.2.2.1 gL_areFirings_L_then rfl rfl rfl kdN_L_then ⟨Nat.le_of_ble_eq_true rfl, Nat.le_of_ble_eq_true rfl⟩) rfl rfl (Nat.le_of_ble_eq_true rfl) ⟨by show i + 1 ≤ 61; omega, by show 4 * i + 4 ≤ 244; omega⟩ dL_areFirings_67 ?_
        refine gx_istore C [(11, _), (0, _), (1, _), (2, _), (3, _), (4, _), (5, _), (6, _), (7, _), (8, _), (9, _), (10, _)] dL_areFirings_70 (by decide) rfl ?_
        refine gx_aload_n (q := 3) C dL_areFirings_72 rfl ?_
        refine gx_iload (q := 11) C dL_areFirings_73 rfl ?_
        refine gx_laldN C (lw_mb (fw_I hI hFp)) (lw_eb (fw_I hI hFp)) rfl (by omega) (by decide) dL_areFirings_75 ?_
        refine gx_iconst (v := 3) C dL_areFirings_76 (by decide) ?_
        refine gx_callRS C (k_L_part l (z.2.1 pj) 3) (va_cwS 2 C.2.2.2.2.1 gL_areFirings_L_part rfl rfl rfl kdN_L_part ⟨Nat.le_of_ble_eq_true rfl, Nat.le_of_ble_eq_true rfl⟩) rfl rfl (Nat.le_of_ble_eq_true rfl) ⟨by show i + 1 ≤ 61; omega, by show 4 * i + 4 ≤ 244; omega⟩ dL_areFirings_77 ?_
        refine gx_istore C [(12, _), (11, _), (0, _), (1, _), (2, _), (3, _), (4, _), (5, _), (6, _), (7, _), (8, _), (9, _), (10, _)] dL_areFirings_80 (by decide) rfl ?_
        refine gx_aload (q := 9) C dL_areFirings_82 rfl ?_
        refine gx_join (pc2 := 116) ((if (lThen z.1 (z.2.1 pj) (nI (80 + i))) = 4 then 0 else (if (lThen z.1 (z.2.1 pj) (nI (80 + i))) = (pt (z.2.1 pj) 3) then 3 else (if (lThen z.1 (z.2.1 pj) (nI (80 + i))) = 3 then 2 else 1))) : Int32) ?_ (fun jj_84 => ?_)
        · skip
          refine gx_top (nI (fIx z.1 (z.2.1 pj) (nI (80 + i)))) (fIx_e _ _ _) ?_
          have hfx := fIx_lt z.1 (z.2.1 pj) (nI (80 + i))
          refine gx_dup2 C dL_areFirings_116 rfl rfl ?_
          refine gx_ialdN C (fw_ms hFp) hFp.2.1 rfl (by omega) (by decide) dL_areFirings_117 ?_
          refine gx_iconst (v := 1) C dL_areFirings_118 (by decide) ?_
          refine gx_iload (q := 12) C dL_areFirings_119 rfl ?_
          refine gx_ishl C dL_areFirings_121 ?_
          refine gx_ior C dL_areFirings_122 ?_
          refine gx_iastN C hD (fw_ms hFp) hFp.2.1 rfl (by omega) (by decide) dL_areFirings_123 ?_
          refine gx_Fs hFp (fun f_1 hF_1 => ?_)
          refine gx_iload (q := 10) C dL_areFirings_124 rfl ?_
          refine gx_join (pc2 := 140) ((if (lThen z.1 (z.2.1 pj) (nI (80 + i))) = ((pt (z.2.1 pj) 3) + 1) then 1 else 0) : Int32) ?_ (fun jj_126 => ?_)
          · skip
            refine gx_iadd C dL_areFirings_140 ?_
            refine gx_istore C [(8, _), (12, _), (11, _), (0, _), (1, _), (2, _), (3, _), (4, _), (5, _), (6, _), (7, _), (9, _), (10, _)] dL_areFirings_141 (by decide) rfl ?_
            refine gx_iload (q := 11) C dL_areFirings_143 rfl ?_
            refine gx_join (pc2 := 156) ((if (lThen z.1 (z.2.1 pj) (nI (80 + i))) = 4 then 1 else 0) : Int32) ?_ (fun jj_145 => ?_)
            · skip
              refine gx_iadd C dL_areFirings_156 ?_
              refine gx_istore C [(9, _), (8, _), (12, _), (11, _), (0, _), (1, _), (2, _), (3, _), (4, _), (5, _), (6, _), (7, _), (10, _)] dL_areFirings_157 (by decide) rfl ?_
              refine gx_iinc C (q := 12) (v := nI (pj + 1)) [(10, _), (9, _), (8, _), (12, _), (11, _), (0, _), (1, _), (2, _), (3, _), (4, _), (5, _), (6, _), (7, _)] dL_areFirings_159 rfl (nI_inc pj) (by decide) rfl ?_
              refine gx_goto (tgt := 35) C dL_areFirings_162 (by decide) ?_
              have e1 := cnI_if (P := fOn z.1 z.2.1 (nI (80 + i))) (n := pj) (c := lThen z.1 (z.2.1 pj) (nI (80 + i)) = pt (z.2.1 pj) 3 + 1) (by simp [fOn, c_54])
              have e2 := cnI_if (P := fBr z.1 z.2.1 (nI (80 + i))) (n := pj) (c := lThen z.1 (z.2.1 pj) (nI (80 + i)) = 4) (by simp [fBr, c_54])
              have e3 := fS_s z.1 z.2.1 (nI (80 + i)) pj c_54
              exact gx_back [5, 6, 7, 8, 9, 10, 11, 12, 2, 1, 0] (ihp (pj + 1, _) ⟨by show pj + 1 ≤ n; omega, by show isFw k L1 L2 fi _ qa (fun c => mk (fS z.1 z.2.1 (nI (80 + i)) c) (pj + 1)); rw [← e3]; exact hF_1⟩ (by show n - (pj + 1) < n - pj; omega)) rfl (by show _ = [(0, _), (1, _), (2, _), (3, _), (4, _), (5, _), (6, _), (7, _), (8, Value.int (cnI (fOn z.1 z.2.1 (nI (80 + i))) (pj + 1))), (9, Value.int (cnI (fBr z.1 z.2.1 (nI (80 + i))) (pj + 1))), (10, _)]; rw [e1, e2]; rfl)
            refine gx_iload (q := 2) C dL_areFirings_145 rfl ?_
            refine gx_iconst (v := 4) C dL_areFirings_147 (by decide) ?_
            refine gx_icmp_ne (tgt := 155) C dL_areFirings_148 (by decide) (fun c_148 => ?_) (fun c_148 => ?_)
            · skip
              refine gx_iconst (v := 0) C dL_areFirings_155 (by decide) ?_
              exact jj_145 _ ((if_neg c_148).trans (rfl)).symm
            · skip
              refine gx_iconst (v := 1) C dL_areFirings_151 (by decide) ?_
              refine gx_goto (tgt := 156) C dL_areFirings_152 (by decide) ?_
              exact jj_145 _ ((if_pos c_148).trans (rfl)).symm
          refine gx_iload (q := 1) C dL_areFirings_126 rfl ?_
          refine gx_iload (q := 0) C dL_areFirings_128 rfl ?_
          refine gx_iconst (v := 1) C dL_areFirings_130 (by decide) ?_
          refine gx_iadd C dL_areFirings_131 ?_
          refine gx_icmp_ne (tgt := 139) C dL_areFirings_132 (by decide) (fun c_132 => ?_) (fun c_132 => ?_)
          · skip
            refine gx_iconst (v := 0) C dL_areFirings_139 (by decide) ?_
            exact jj_126 _ ((if_neg c_132).trans (rfl)).symm
          · skip
            refine gx_iconst (v := 1) C dL_areFirings_135 (by decide) ?_
            refine gx_goto (tgt := 140) C dL_areFirings_136 (by decide) ?_
            exact jj_126 _ ((if_pos c_132).trans (rfl)).symm
        refine gx_iload (q := 1) C dL_areFirings_84 rfl ?_
        refine gx_iconst (v := 4) C dL_areFirings_86 (by decide) ?_
        refine gx_icmp_ne (tgt := 94) C dL_areFirings_87 (by decide) (fun c_87 => ?_) (fun c_87 => ?_)
        · skip
          refine gx_iload (q := 1) C dL_areFirings_94 rfl ?_
          refine gx_iload (q := 0) C dL_areFirings_96 rfl ?_
          refine gx_icmp_ne (tgt := 105) C dL_areFirings_98 (by decide) (fun c_98 => ?_) (fun c_98 => ?_)
          · skip
            refine gx_iload (q := 1) C dL_areFirings_105 rfl ?_
            refine gx_iconst (v := 3) C dL_areFirings_107 (by decide) ?_
            refine gx_icmp_ne (tgt := 115) C dL_areFirings_108 (by decide) (fun c_108 => ?_) (fun c_108 => ?_)
            · skip
              refine gx_iconst (v := 1) C dL_areFirings_115 (by decide) ?_
              exact jj_84 _ ((if_neg c_87).trans ((if_neg c_98).trans ((if_neg c_108).trans (rfl)))).symm
            · skip
              refine gx_iconst (v := 2) C dL_areFirings_111 (by decide) ?_
              refine gx_goto (tgt := 116) C dL_areFirings_112 (by decide) ?_
              exact jj_84 _ ((if_neg c_87).trans ((if_neg c_98).trans ((if_pos c_108).trans (rfl)))).symm
          · skip
            refine gx_iconst (v := 3) C dL_areFirings_101 (by decide) ?_
            refine gx_goto (tgt := 116) C dL_areFirings_102 (by decide) ?_
            exact jj_84 _ ((if_neg c_87).trans ((if_pos c_98).trans (rfl))).symm
        · skip
          refine gx_iconst (v := 0) C dL_areFirings_90 (by decide) ?_
          refine gx_goto (tgt := 116) C dL_areFirings_91 (by decide) ?_
          exact jj_84 _ ((if_pos c_87).trans (rfl)).symm
      · skip
        refine gx_goto (tgt := 159) C dL_areFirings_57 (by decide) ?_
        refine gx_iinc C (q := 10) (v := nI (pj + 1)) [(10, _), (0, _), (1, _), (2, _), (3, _), (4, _), (5, _), (6, _), (7, _), (8, _), (9, _)] dL_areFirings_159 rfl (nI_inc pj) (by decide) rfl ?_
        refine gx_goto (tgt := 35) C dL_areFirings_162 (by decide) ?_
        have e1 : cnI (fOn z.1 z.2.1 (nI (80 + i))) (pj + 1) = cnI (fOn z.1 z.2.1 (nI (80 + i))) pj := cnI_f (by simp [fOn, c_54])
        have e2 : cnI (fBr z.1 z.2.1 (nI (80 + i))) (pj + 1) = cnI (fBr z.1 z.2.1 (nI (80 + i))) pj := cnI_f (by simp [fBr, c_54])
        have e3 := fS_n z.1 z.2.1 (nI (80 + i)) pj c_54
        exact gx_back [1, 2, 3, 4, 5, 6, 7, 8, 9, 10, 0] (ihp (pj + 1, _) ⟨by show pj + 1 ≤ n; omega, by show isFw k L1 L2 fi _ qa (fun c => mk (fS z.1 z.2.1 (nI (80 + i)) c) (pj + 1)); rw [← e3]; exact hFp⟩ (by show n - (pj + 1) < n - pj; omega)) rfl (by show _ = [(0, _), (1, _), (2, _), (3, _), (4, _), (5, _), (6, _), (7, _), (8, Value.int (cnI (fOn z.1 z.2.1 (nI (80 + i))) (pj + 1))), (9, Value.int (cnI (fBr z.1 z.2.1 (nI (80 + i))) (pj + 1))), (10, _)]; rw [e1, e2]; rfl)
