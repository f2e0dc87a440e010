/-! the law's pupils -/
theorem mk_or0 {P : Nat → Bool} {n : Nat} {c : Prop} [Decidable c] (h : P n = decide c) : mk P (n + 1) = mk P n ||| (if c then (1 : Int32) <<< (nI n &&& 31) else 0) := by
  by_cases e : c
  · rw [if_pos e]; exact mk_t (h.trans (decide_eq_true e))
  · rw [if_neg e, or0]; exact mk_f (h.trans (decide_eq_false e))
theorem cnI_if {P : Nat → Bool} {n : Nat} {c : Prop} [Decidable c] (h : P n = decide c) : cnI P (n + 1) = cnI P n + (if c then 1 else 0) := by
  by_cases e : c
  · rw [if_pos e]; exact cnI_t (h.trans (decide_eq_true e))
  · rw [if_neg e, add0]; exact cnI_f (h.trans (decide_eq_false e))
theorem FF_far {k0 : Nat → Int32} {i g0 nv fv : Int32} {m m2 : Nat} (h : FF k0 i g0 m nv fv) (hn : 0 ≤ nv) : FF k0 i g0 m2 nv fv := by
  rcases h with ⟨h1, -⟩ | h
  · rw [h1] at hn; exact absurd hn (by decide)
  · exact Or.inr h
theorem FF_miss {k0 : Nat → Int32} {i g0 nv fv : Int32} {a w : Nat} (hn : nv < 0) (h : FF k0 i g0 (5 * a + w) nv fv) (hw : w < 5) (hok : ¬ okL k0 i a w) : FF k0 i g0 (5 * a + (w + 1)) nv fv := by
  rcases h with ⟨h1, h2, h3⟩ | ⟨h1, -⟩
  · refine Or.inl ⟨h1, h2, fun a' w' g1 g2 => ?_⟩
    by_cases e : 5 * a' + w' < 5 * a + w
    · exact h3 a' w' g1 e
    · have e1 : a' = a := by omega
      have e2 : w' = w := by omega
      subst e1; subst e2
      exact hok
  · exact absurd hn h1
theorem FF_hit {k0 : Nat → Int32} {i g0 nv fv : Int32} {a w m2 : Nat} (hn : nv < 0) (h : FF k0 i g0 (5 * a + w) nv fv) (ha : a < 7) (hw : w < 5) (hg : ¬ g0 + nI a < 0) (hok : okL k0 i a w) : FF k0 i g0 m2 (g0 + nI a) (nI w) := by
  rcases h with ⟨h1, h2, h3⟩ | ⟨h1, -⟩
  · exact Or.inr ⟨hg, a, w, ha, hw, hok, h3, rfl, rfl⟩
  · exact absurd hn h1
theorem kdN_L_arePupils : yL_arePupils.cls ≠ "java/lang/invoke/MethodHandle" ∧ yL_arePupils.cls ≠ "java/lang/invoke/VarHandle" ∧ (parseMethodDescriptor yL_arePupils.desc).map (fun d => d.parameters.length) = some 5 := by decide +kernel
theorem kdV_L_arePupils : yL_arePupils.cls = RL ∧ yL_arePupils.cls ≠ "java/lang/invoke/MethodHandle" ∧ yL_arePupils.cls ≠ "java/lang/invoke/VarHandle" ∧ (parseMethodDescriptor yL_arePupils.desc).map (fun d => d.parameters.length) = some 5 := ⟨rfl, kdN_L_arePupils⟩
abbrev rmL_arePupils : Room := { frames := 6, cells := 0, slots := 0, locals := 135 }
set_option maxHeartbeats 4000000 in
set_option maxRecDepth 100000 in
theorem k_L_arePupils (l : Launch) {k : gK} {f : Nat → va_E} {L1 L2 : List Nat} {AA : Nat → Nat} {q : PS} {B : Nat → Nat} {z : ZS} (hI : isLW k L1 L2 f AA q B z) {J n np nt x0 : Nat} {zr : Nat → Int32} (h : IV J q zr z) (hz : LZn J n np nt x0 zr z) (hJ : J ≤ 100)   : kR l k (L1 ++ L2) f yL_arePupils wsL_arePupils rmL_arePupils [.ref (AA 0), .ref (B 0), .ref (B 1), .ref (B 2), .ref (B 3)] (.int 1) := by
  refine kR_of (cc := cL_arePupils) (maxL := 14) (ret := (some .boolean)) (by decide) rfl (Nat.le_of_ble_eq_true rfl) ?_
  intro p e s m args below meth c C hr
  have hn : z.1 7 = nI n := (hz.2.2.1 7 (by decide)).trans hz.2.1.1
  have hn2 : n ≤ 20 := hz.1.1
  have hnp : z.1 6 = nI np := (hz.2.2.1 6 (by decide)).trans hz.2.1.2.1
  have hnp2 : np ≤ 10 := hz.1.2.1
  have hnt : z.1 0 = nI nt := (hz.2.2.1 0 (by decide)).trans hz.2.1.2.2.1
  have hnt2 : nt ≤ 300 := by have := hz.1.2.2.1; omega
  refine gx_lv [(0, _), (1, _), (2, _), (3, _), (4, _)] [0, 1, 2, 3, 4] rfl ?_
  refine gx_iconst (v := 0) C dL_arePupils_0 (by decide) ?_
  refine gx_istore C [(5, _), (0, _), (1, _), (2, _), (3, _), (4, _)] dL_arePupils_1 (by decide) rfl ?_
  refine gx_loop (σ := Nat) (fun i => f) (fun i => [(0, .ref (AA 0)), (1, .ref (B 0)), (2, .ref (B 1)), (3, .ref (B 2)), (4, .ref (B 3)), (5, .int (nI i))]) (fun i => i ≤ np) (fun i => np - i) 0 [1, 2, 3, 4, 5, 0] rfl rfl ?_ ?_
  · exact Nat.zero_le _
  intro i hIi ihi
  try dsimp only at hIi ihi ⊢
  refine gx_iload (q := 5) C dL_arePupils_3 rfl ?_
  refine gx_aload_n (q := 1) C dL_arePupils_5 rfl ?_
  refine gx_bipush (v := 6) C dL_arePupils_6 (by decide) ?_
  refine gx_ialdN C (lw_mg hI) (lw_eg hI) (nLit 6) (by omega) (by decide) dL_arePupils_8 ?_
  refine gx_top (nI np) hnp ?_
  refine gx_icmp_ge (tgt := 377) C dL_arePupils_9 (by decide) (fun c_9 => ?_) (fun c_9 => ?_)
  · skip
    have hb_i := (nI_leI (by omega) (by omega)).mp c_9
    refine gx_iconst (v := 1) C dL_arePupils_377 (by decide) ?_
    exact gx_zretR C rfl hr (Or.inr rfl) dL_arePupils_378 rfl
  · skip
    have hlt_i : i < np := Nat.lt_of_not_le (fun z => c_9 ((nI_leI (by omega) (by omega)).mpr z))
    refine gx_iconst (v := 0) C dL_arePupils_12 (by decide) ?_
    refine gx_istore C [(6, _), (0, _), (1, _), (2, _), (3, _), (4, _), (5, _)] dL_arePupils_13 (by decide) rfl ?_
    refine gx_iconst (v := 0) C dL_arePupils_15 (by decide) ?_
    refine gx_istore C [(7, _), (6, _), (0, _), (1, _), (2, _), (3, _), (4, _), (5, _)] dL_arePupils_16 (by decide) rfl ?_
    refine gx_iconst (v := 0) C dL_arePupils_18 (by decide) ?_
    refine gx_istore C [(8, _), (7, _), (6, _), (0, _), (1, _), (2, _), (3, _), (4, _), (5, _)] dL_arePupils_19 (by decide) rfl ?_
    refine gx_iconst (v := 0) C dL_arePupils_21 (by decide) ?_
    refine gx_istore C [(9, _), (8, _), (7, _), (6, _), (0, _), (1, _), (2, _), (3, _), (4, _), (5, _)] dL_arePupils_22 (by decide) rfl ?_
    refine gx_iconst (v := (-1)) C dL_arePupils_24 (by decide) ?_
    refine gx_istore C [(10, _), (9, _), (8, _), (7, _), (6, _), (0, _), (1, _), (2, _), (3, _), (4, _), (5, _)] dL_arePupils_25 (by decide) rfl ?_
    refine gx_iconst (v := (-1)) C dL_arePupils_27 (by decide) ?_
    refine gx_istore C [(11, _), (10, _), (9, _), (8, _), (7, _), (6, _), (0, _), (1, _), (2, _), (3, _), (4, _), (5, _)] dL_arePupils_28 (by decide) rfl ?_
    refine gx_iconst (v := 0) C dL_arePupils_30 (by decide) ?_
    refine gx_istore C [(12, _), (11, _), (10, _), (9, _), (8, _), (7, _), (6, _), (0, _), (1, _), (2, _), (3, _), (4, _), (5, _)] dL_arePupils_31 (by decide) rfl ?_
    refine gx_loop (σ := Nat) (fun pj => f) (fun pj => [(0, .ref (AA 0)), (1, .ref (B 0)), (2, .ref (B 1)), (3, .ref (B 2)), (4, .ref (B 3)), (5, .int (nI i)), (6, .int (mk (lP0 z.2.1 (nI i)) pj)), (7, .int (mk (lPk z.2.1 (nI i) 3) pj)), (8, .int (mk (lPk z.2.1 (nI i) 4) pj)), (9, .int 0), (10, .int (-1)), (11, .int (-1)), (12, .int (nI pj))]) (fun pj => pj ≤ n) (fun pj => n - pj) 0 [7, 8, 9, 10, 11, 12, 6, 5, 4, 3, 2, 1, 0] rfl rfl ?_ ?_
    · exact Nat.zero_le _
    intro pj hPj ihp
    try dsimp only at hPj ihp ⊢
    refine gx_iload (q := 12) C dL_arePupils_33 rfl ?_
    refine gx_aload_n (q := 1) C dL_arePupils_35 rfl ?_
    refine gx_bipush (v := 7) C dL_arePupils_36 (by decide) ?_
    refine gx_ialdN C (lw_mg hI) (lw_eg hI) (nLit 7) (by omega) (by decide) dL_arePupils_38 ?_
    refine gx_top (nI n) hn ?_
    refine gx_icmp_ge (tgt := 123) C dL_arePupils_39 (by decide) (fun c_39 => ?_) (fun c_39 => ?_)
    · skip
      have hb_pj := (nI_leI (by omega) (by omega)).mp c_39
      have hin : n = pj := by omega
      subst hin
      refine gx_iconst (v := 0) C dL_arePupils_123 (by decide) ?_
      refine gx_istore C [(12, _), (0, _), (1, _), (2, _), (3, _), (4, _), (5, _), (6, _), (7, _), (8, _), (9, _), (10, _), (11, _)] dL_arePupils_124 (by decide) rfl ?_
      refine gx_loop (σ := Nat) (fun bj => f) (fun bj => [(0, .ref (AA 0)), (1, .ref (B 0)), (2, .ref (B 1)), (3, .ref (B 2)), (4, .ref (B 3)), (5, .int (nI i)), (6, .int (mk (lP0 z.2.1 (nI i)) n)), (7, .int (mk (lPk z.2.1 (nI i) 3) n)), (8, .int (mk (lPk z.2.1 (nI i) 4) n)), (9, .int (cnI (lBk z.2.2.1 (nI i)) bj)), (10, .int (-1)), (11, .int (-1)), (12, .int (nI bj))]) (fun bj => bj ≤ 30) (fun bj => 30 - bj) 0 [1, 2, 3, 4, 5, 6, 7, 8, 9, 10, 11, 12, 0] rfl rfl ?_ ?_
      · exact Nat.zero_le _
      intro bj hBj ihb
      try dsimp only at hBj ihb ⊢
      refine gx_iload (q := 12) C dL_arePupils_126 rfl ?_
      refine gx_bipush (v := 30) C dL_arePupils_128 (by decide) ?_
      refine gx_icmp_ge (tgt := 160) C dL_arePupils_130 (by decide) (fun c_130 => ?_) (fun c_130 => ?_)
      · skip
        have hb_bj := (nI_leI (a := 30) (b := bj) (by decide) (by omega)).mp c_130
        have hin : bj = 30 := by omega
        subst hin
        refine gx_iconst (v := 0) C dL_arePupils_160 (by decide) ?_
        refine gx_istore C [(12, _), (0, _), (1, _), (2, _), (3, _), (4, _), (5, _), (6, _), (7, _), (8, _), (9, _), (10, _), (11, _)] dL_arePupils_161 (by decide) rfl ?_
        refine gx_loop (σ := Nat × Int32 × Int32) (fun sa => f) (fun sa => [(0, .ref (AA 0)), (1, .ref (B 0)), (2, .ref (B 1)), (3, .ref (B 2)), (4, .ref (B 3)), (5, .int (nI i)), (6, .int (mk (lP0 z.2.1 (nI i)) n)), (7, .int (mk (lPk z.2.1 (nI i) 3) n)), (8, .int (mk (lPk z.2.1 (nI i) 4) n)), (9, .int (cnI (lBk z.2.2.1 (nI i)) 30)), (10, .int sa.2.1), (11, .int sa.2.2), (12, .int (nI sa.1))]) (fun sa => sa.1 ≤ 7 ∧ FF z.2.2.1 (nI i) (z.1 0) (5 * sa.1) sa.2.1 sa.2.2) (fun sa => 7 - sa.1) (0, -1, -1) [1, 2, 3, 4, 5, 6, 7, 8, 9, 10, 11, 12, 0] rfl rfl ?_ ?_
        · exact ⟨Nat.zero_le _, Or.inl ⟨rfl, rfl, fun a w h1 h2 => by omega⟩⟩
        intro ⟨a, nv, fv⟩ hA iha
        try dsimp only at hA iha ⊢
        refine gx_iload (q := 12) C dL_arePupils_163 rfl ?_
        refine gx_bipush (v := 7) C dL_arePupils_165 (by decide) ?_
        refine gx_icmp_ge (tgt := 247) C dL_arePupils_167 (by decide) (fun c_167 => ?_) (fun c_167 => ?_)
        · skip
          have hb_a := (nI_leI (a := 7) (b := a) (by decide) (by omega)).mp c_167
          have hA2 : FF z.2.2.1 (nI i) (z.1 0) 35 nv fv := by have := hA.2; rwa [show 5 * a = 35 by have := hA.1; omega] at this
          refine gx_iload (q := 5) C dL_arePupils_247 rfl ?_
          refine gx_iconst (v := 0) C dL_arePupils_249 (by decide) ?_
          refine gx_aload_n (q := 3) C dL_arePupils_250 rfl ?_
          refine gx_callRS C (k_L_wheel l (lw_mk hI) (lw_ek hI) (nI i) 0 (by omega)) (va_cwS 3 C.2.2.2.2.1 gL_arePupils_L_wheel rfl rfl rfl kdN_L_wheel ⟨Nat.le_of_ble_eq_true rfl, Nat.le_of_ble_eq_true rfl⟩) rfl rfl (Nat.le_of_ble_eq_true rfl) ⟨Nat.le_of_ble_eq_true rfl, Nat.le_of_ble_eq_true rfl⟩ dL_arePupils_251 ?_
          refine gx_istore C [(12, _), (0, _), (1, _), (2, _), (3, _), (4, _), (5, _), (6, _), (7, _), (8, _), (9, _), (10, _), (11, _)] dL_arePupils_254 (by decide) rfl ?_
          refine gx_aload_n (q := 1) C dL_arePupils_256 rfl ?_
          refine gx_iload (q := 6) C dL_arePupils_257 rfl ?_
          refine gx_iconst (v := 0) C dL_arePupils_259 (by decide) ?_
          refine gx_callQ C hI (k_X6_ofPupil l (lw_pn hI) (IV_ok h) _ _) (cwV 2 C.2.2.2.2.1 gL_arePupils_X6_ofPupil rfl rfl rfl kdV_X6_ofPupil ⟨Nat.le_of_ble_eq_true rfl, Nat.le_of_ble_eq_true rfl⟩) rfl rfl (Nat.le_of_ble_eq_true rfl) ⟨Nat.le_of_ble_eq_true rfl, Nat.le_of_ble_eq_true rfl⟩ dL_arePupils_260 ?_
          refine gx_join (pc2 := 275) ((if 0 ≤ (lWh z.2.2.1 (nI i) 0) then (lWh z.2.2.1 (nI i) 0) else (-6)) : Int32) ?_ (fun jj_263 => ?_)
          · skip
            refine gx_icmp_ne (tgt := 369) C dL_arePupils_275 (by decide) (fun c_275 => ?_) (fun c_275 => ?_)
            · skip
              exact absurd (B_0 h hz hlt_i) c_275
            · skip
              refine gx_aload_n (q := 1) C dL_arePupils_278 rfl ?_
              refine gx_iload (q := 6) C dL_arePupils_279 rfl ?_
              refine gx_iconst (v := 1) C dL_arePupils_281 (by decide) ?_
              refine gx_callQ C hI (k_X6_ofPupil l (lw_pn hI) (IV_ok h) _ _) (cwV 2 C.2.2.2.2.1 gL_arePupils_X6_ofPupil rfl rfl rfl kdV_X6_ofPupil ⟨Nat.le_of_ble_eq_true rfl, Nat.le_of_ble_eq_true rfl⟩) rfl rfl (Nat.le_of_ble_eq_true rfl) ⟨Nat.le_of_ble_eq_true rfl, Nat.le_of_ble_eq_true rfl⟩ dL_arePupils_282 ?_
              refine gx_iload (q := 7) C dL_arePupils_285 rfl ?_
              refine gx_icmp_ne (tgt := 369) C dL_arePupils_287 (by decide) (fun c_287 => ?_) (fun c_287 => ?_)
              · skip
                exact absurd (B_1 h hz hlt_i) c_287
              · skip
                refine gx_aload_n (q := 1) C dL_arePupils_290 rfl ?_
                refine gx_iload (q := 6) C dL_arePupils_291 rfl ?_
                refine gx_iconst (v := 2) C dL_arePupils_293 (by decide) ?_
                refine gx_callQ C hI (k_X6_ofPupil l (lw_pn hI) (IV_ok h) _ _) (cwV 2 C.2.2.2.2.1 gL_arePupils_X6_ofPupil rfl rfl rfl kdV_X6_ofPupil ⟨Nat.le_of_ble_eq_true rfl, Nat.le_of_ble_eq_true rfl⟩) rfl rfl (Nat.le_of_ble_eq_true rfl) ⟨Nat.le_of_ble_eq_true rfl, Nat.le_of_ble_eq_true rfl⟩ dL_arePupils_294 ?_
                refine gx_iload (q := 8) C dL_arePupils_297 rfl ?_
                refine gx_icmp_ne (tgt := 369) C dL_arePupils_299 (by decide) (fun c_299 => ?_) (fun c_299 => ?_)
                · skip
                  exact absurd (B_2 h hz hlt_i) c_299
                · skip
                  refine gx_aload_n (q := 1) C dL_arePupils_302 rfl ?_
                  refine gx_iload (q := 6) C dL_arePupils_303 rfl ?_
                  refine gx_iconst (v := 3) C dL_arePupils_305 (by decide) ?_
                  refine gx_callQ C hI (k_X6_ofPupil l (lw_pn hI) (IV_ok h) _ _) (cwV 2 C.2.2.2.2.1 gL_arePupils_X6_ofPupil rfl rfl rfl kdV_X6_ofPupil ⟨Nat.le_of_ble_eq_true rfl, Nat.le_of_ble_eq_true rfl⟩) rfl rfl (Nat.le_of_ble_eq_true rfl) ⟨Nat.le_of_ble_eq_true rfl, Nat.le_of_ble_eq_true rfl⟩ dL_arePupils_306 ?_
                  refine gx_iload (q := 9) C dL_arePupils_309 rfl ?_
                  refine gx_icmp_ne (tgt := 369) C dL_arePupils_311 (by decide) (fun c_311 => ?_) (fun c_311 => ?_)
                  · skip
                    exact absurd (B_3 h hz hlt_i) c_311
                  · skip
                    refine gx_aload_n (q := 1) C dL_arePupils_314 rfl ?_
                    refine gx_iload (q := 6) C dL_arePupils_315 rfl ?_
                    refine gx_iconst (v := 4) C dL_arePupils_317 (by decide) ?_
                    refine gx_callQ C hI (k_X6_ofPupil l (lw_pn hI) (IV_ok h) _ _) (cwV 2 C.2.2.2.2.1 gL_arePupils_X6_ofPupil rfl rfl rfl kdV_X6_ofPupil ⟨Nat.le_of_ble_eq_true rfl, Nat.le_of_ble_eq_true rfl⟩) rfl rfl (Nat.le_of_ble_eq_true rfl) ⟨Nat.le_of_ble_eq_true rfl, Nat.le_of_ble_eq_true rfl⟩ dL_arePupils_318 ?_
                    refine gx_aload (q := 5) C dL_arePupils_321 rfl ?_
                    refine gx_iconst (v := 2) C dL_arePupils_323 (by decide) ?_
                    refine gx_iload (q := 6) C dL_arePupils_324 rfl ?_
                    refine gx_imul C dL_arePupils_326 ?_
                    refine gx_iconst (v := 1) C dL_arePupils_327 (by decide) ?_
                    refine gx_iadd C dL_arePupils_328 ?_
                    refine gx_ialdN C (lw_mt hI) (lw_et hI) (nAdd (nMul (nLit 2) rfl) (nLit 1)) (by omega) (by decide) dL_arePupils_329 ?_
                    refine gx_icmp_ne (tgt := 369) C dL_arePupils_330 (by decide) (fun c_330 => ?_) (fun c_330 => ?_)
                    · skip
                      exact absurd (B_4 h hz hlt_i) c_330
                    · skip
                      refine gx_aload_n (q := 1) C dL_arePupils_333 rfl ?_
                      refine gx_iload (q := 6) C dL_arePupils_334 rfl ?_
                      refine gx_iconst (v := 5) C dL_arePupils_336 (by decide) ?_
                      refine gx_callQ C hI (k_X6_ofPupil l (lw_pn hI) (IV_ok h) _ _) (cwV 2 C.2.2.2.2.1 gL_arePupils_X6_ofPupil rfl rfl rfl kdV_X6_ofPupil ⟨Nat.le_of_ble_eq_true rfl, Nat.le_of_ble_eq_true rfl⟩) rfl rfl (Nat.le_of_ble_eq_true rfl) ⟨Nat.le_of_ble_eq_true rfl, Nat.le_of_ble_eq_true rfl⟩ dL_arePupils_337 ?_
                      refine gx_iload (q := 10) C dL_arePupils_340 rfl ?_
                      refine gx_icmp_ne (tgt := 369) C dL_arePupils_342 (by decide) (fun c_342 => ?_) (fun c_342 => ?_)
                      · skip
                        exact absurd (B_5 h hz hlt_i) c_342
                      · skip
                        refine gx_aload_n (q := 1) C dL_arePupils_345 rfl ?_
                        refine gx_iload (q := 6) C dL_arePupils_346 rfl ?_
                        refine gx_iconst (v := 0) C dL_arePupils_348 (by decide) ?_
                        refine gx_callQ C hI (k_X6_firstFree l (lw_pn hI) (IV_ok h) _ _) (cwV 2 C.2.2.2.2.1 gL_arePupils_X6_firstFree rfl rfl rfl kdV_X6_firstFree ⟨Nat.le_of_ble_eq_true rfl, Nat.le_of_ble_eq_true rfl⟩) rfl rfl (Nat.le_of_ble_eq_true rfl) ⟨Nat.le_of_ble_eq_true rfl, Nat.le_of_ble_eq_true rfl⟩ dL_arePupils_349 ?_
                        refine gx_iload (q := 11) C dL_arePupils_352 rfl ?_
                        refine gx_icmp_ne (tgt := 369) C dL_arePupils_354 (by decide) (fun c_354 => ?_) (fun c_354 => ?_)
                        · skip
                          exact absurd (B_ff h hz hlt_i hA2).1 c_354
                        · skip
                          refine gx_aload_n (q := 1) C dL_arePupils_357 rfl ?_
                          refine gx_iload (q := 6) C dL_arePupils_358 rfl ?_
                          refine gx_iconst (v := 1) C dL_arePupils_360 (by decide) ?_
                          refine gx_callQ C hI (k_X6_firstFree l (lw_pn hI) (IV_ok h) _ _) (cwV 2 C.2.2.2.2.1 gL_arePupils_X6_firstFree rfl rfl rfl kdV_X6_firstFree ⟨Nat.le_of_ble_eq_true rfl, Nat.le_of_ble_eq_true rfl⟩) rfl rfl (Nat.le_of_ble_eq_true rfl) ⟨Nat.le_of_ble_eq_true rfl, Nat.le_of_ble_eq_true rfl⟩ dL_arePupils_361 ?_
                          refine gx_iload (q := 12) C dL_arePupils_364 rfl ?_
                          refine gx_icmp_eq (tgt := 371) C dL_arePupils_366 (by decide) (fun c_366 => ?_) (fun c_366 => ?_)
                          · skip
                            refine gx_iinc C (q := 6) (v := nI (i + 1)) [(5, _), (12, _), (0, _), (1, _), (2, _), (3, _), (4, _), (6, _), (7, _), (8, _), (9, _), (10, _), (11, _)] dL_arePupils_371 rfl (nI_inc i) (by decide) rfl ?_
                            refine gx_goto (tgt := 3) C dL_arePupils_374 (by decide) ?_
                            exact gx_back [2, 3, 4, 5, 6, 0] (ihi (i + 1) (by omega) (by omega)) rfl (by rfl)
                          · skip
                            exact absurd (B_ff h hz hlt_i hA2).2 c_366
          refine gx_iload (q := 0) C dL_arePupils_263 rfl ?_
          refine gx_if_ge (tgt := 273) C dL_arePupils_265 (by decide) (fun c_265 => ?_) (fun c_265 => ?_)
          · skip
            refine gx_iload (q := 0) C dL_arePupils_273 rfl ?_
            exact jj_263 _ ((if_pos c_265).trans (rfl)).symm
          · skip
            refine gx_bipush (v := (-6)) C dL_arePupils_268 (by decide) ?_
            refine gx_goto (tgt := 275) C dL_arePupils_270 (by decide) ?_
            exact jj_263 _ ((if_neg c_265).trans (rfl)).symm
        · skip
          have hlt_a : a < 7 := Nat.lt_of_not_le (fun z => c_167 ((nI_leI (a := 7) (b := a) (by decide) (by omega)).mpr z))
          refine gx_iload (q := 10) C dL_arePupils_170 rfl ?_
          refine gx_if_ge (tgt := 247) C dL_arePupils_172 (by decide) (fun c_172 => ?_) (fun c_172 => ?_)
          · skip
            have hA2 : FF z.2.2.1 (nI i) (z.1 0) 35 nv fv := FF_far hA.2 c_172
            refine gx_iload (q := 5) C dL_arePupils_247 rfl ?_
            refine gx_iconst (v := 0) C dL_arePupils_249 (by decide) ?_
            refine gx_aload_n (q := 3) C dL_arePupils_250 rfl ?_
            refine gx_callRS C (k_L_wheel l (lw_mk hI) (lw_ek hI) (nI i) 0 (by omega)) (va_cwS 3 C.2.2.2.2.1 gL_arePupils_L_wheel rfl rfl rfl kdN_L_wheel ⟨Nat.le_of_ble_eq_true rfl, Nat.le_of_ble_eq_true rfl⟩) rfl rfl (Nat.le_of_ble_eq_true rfl) ⟨Nat.le_of_ble_eq_true rfl, Nat.le_of_ble_eq_true rfl⟩ dL_arePupils_251 ?_
            refine gx_istore C [(12, _), (0, _), (1, _), (2, _), (3, _), (4, _), (5, _), (6, _), (7, _), (8, _), (9, _), (10, _), (11, _)] dL_arePupils_254 (by decide) rfl ?_
            refine gx_aload_n (q := 1) C dL_arePupils_256 rfl ?_
            refine gx_iload (q := 6) C dL_arePupils_257 rfl ?_
            refine gx_iconst (v := 0) C dL_arePupils_259 (by decide) ?_
            refine gx_callQ C hI (k_X6_ofPupil l (lw_pn hI) (IV_ok h) _ _) (cwV 2 C.2.2.2.2.1 gL_arePupils_X6_ofPupil rfl rfl rfl kdV_X6_ofPupil ⟨Nat.le_of_ble_eq_true rfl, Nat.le_of_ble_eq_true rfl⟩) rfl rfl (Nat.le_of_ble_eq_true rfl) ⟨Nat.le_of_ble_eq_true rfl, Nat.le_of_ble_eq_true rfl⟩ dL_arePupils_260 ?_
            refine gx_join (pc2 := 275) ((if 0 ≤ (lWh z.2.2.1 (nI i) 0) then (lWh z.2.2.1 (nI i) 0) else (-6)) : Int32) ?_ (fun jj_263 => ?_)
            · skip
              refine gx_icmp_ne (tgt := 369) C dL_arePupils_275 (by decide) (fun c_275 => ?_) (fun c_275 => ?_)
              · skip
                exact absurd (B_0 h hz hlt_i) c_275
              · skip
                refine gx_aload_n (q := 1) C dL_arePupils_278 rfl ?_
                refine gx_iload (q := 6) C dL_arePupils_279 rfl ?_
                refine gx_iconst (v := 1) C dL_arePupils_281 (by decide) ?_
                refine gx_callQ C hI (k_X6_ofPupil l (lw_pn hI) (IV_ok h) _ _) (cwV 2 C.2.2.2.2.1 gL_arePupils_X6_ofPupil rfl rfl rfl kdV_X6_ofPupil ⟨Nat.le_of_ble_eq_true rfl, Nat.le_of_ble_eq_true rfl⟩) rfl rfl (Nat.le_of_ble_eq_true rfl) ⟨Nat.le_of_ble_eq_true rfl, Nat.le_of_ble_eq_true rfl⟩ dL_arePupils_282 ?_
                refine gx_iload (q := 7) C dL_arePupils_285 rfl ?_
                refine gx_icmp_ne (tgt := 369) C dL_arePupils_287 (by decide) (fun c_287 => ?_) (fun c_287 => ?_)
                · skip
                  exact absurd (B_1 h hz hlt_i) c_287
                · skip
                  refine gx_aload_n (q := 1) C dL_arePupils_290 rfl ?_
                  refine gx_iload (q := 6) C dL_arePupils_291 rfl ?_
                  refine gx_iconst (v := 2) C dL_arePupils_293 (by decide) ?_
                  refine gx_callQ C hI (k_X6_ofPupil l (lw_pn hI) (IV_ok h) _ _) (cwV 2 C.2.2.2.2.1 gL_arePupils_X6_ofPupil rfl rfl rfl kdV_X6_ofPupil ⟨Nat.le_of_ble_eq_true rfl, Nat.le_of_ble_eq_true rfl⟩) rfl rfl (Nat.le_of_ble_eq_true rfl) ⟨Nat.le_of_ble_eq_true rfl, Nat.le_of_ble_eq_true rfl⟩ dL_arePupils_294 ?_
                  refine gx_iload (q := 8) C dL_arePupils_297 rfl ?_
                  refine gx_icmp_ne (tgt := 369) C dL_arePupils_299 (by decide) (fun c_299 => ?_) (fun c_299 => ?_)
                  · skip
                    exact absurd (B_2 h hz hlt_i) c_299
                  · skip
                    refine gx_aload_n (q := 1) C dL_arePupils_302 rfl ?_
                    refine gx_iload (q := 6) C dL_arePupils_303 rfl ?_
                    refine gx_iconst (v := 3) C dL_arePupils_305 (by decide) ?_
                    refine gx_callQ C hI (k_X6_ofPupil l (lw_pn hI) (IV_ok h) _ _) (cwV 2 C.2.2.2.2.1 gL_arePupils_X6_ofPupil rfl rfl rfl kdV_X6_ofPupil ⟨Nat.le_of_ble_eq_true rfl, Nat.le_of_ble_eq_true rfl⟩) rfl rfl (Nat.le_of_ble_eq_true rfl) ⟨Nat.le_of_ble_eq_true rfl, Nat.le_of_ble_eq_true rfl⟩ dL_arePupils_306 ?_
                    refine gx_iload (q := 9) C dL_arePupils_309 rfl ?_
                    refine gx_icmp_ne (tgt := 369) C dL_arePupils_311 (by decide) (fun c_311 => ?_) (fun c_311 => ?_)
                    · skip
                      exact absurd (B_3 h hz hlt_i) c_311
                    · skip
                      refine gx_aload_n (q := 1) C dL_arePupils_314 rfl ?_
                      refine gx_iload (q := 6) C dL_arePupils_315 rfl ?_
                      refine gx_iconst (v := 4) C dL_arePupils_317 (by decide) ?_
                      refine gx_callQ C hI (k_X6_ofPupil l (lw_pn hI) (IV_ok h) _ _) (cwV 2 C.2.2.2.2.1 gL_arePupils_X6_ofPupil rfl rfl rfl kdV_X6_ofPupil ⟨Nat.le_of_ble_eq_true rfl, Nat.le_of_ble_eq_true rfl⟩) rfl rfl (Nat.le_of_ble_eq_true rfl) ⟨Nat.le_of_ble_eq_true rfl, Nat.le_of_ble_eq_true rfl⟩ dL_arePupils_318 ?_
                      refine gx_aload (q := 5) C dL_arePupils_321 rfl ?_
                      refine gx_iconst (v := 2) C dL_arePupils_323 (by decide) ?_
                      refine gx_iload (q := 6) C dL_arePupils_324 rfl ?_
                      refine gx_imul C dL_arePupils_326 ?_
                      refine gx_iconst (v := 1) C dL_arePupils_327 (by decide) ?_
                      refine gx_iadd C dL_arePupils_328 ?_
                      refine gx_ialdN C (lw_mt hI) (lw_et hI) (nAdd (nMul (nLit 2) rfl) (nLit 1)) (by omega) (by decide) dL_arePupils_329 ?_
                      refine gx_icmp_ne (tgt := 369) C dL_arePupils_330 (by decide) (fun c_330 => ?_) (fun c_330 => ?_)
                      · skip
                        exact absurd (B_4 h hz hlt_i) c_330
                      · skip
                        refine gx_aload_n (q := 1) C dL_arePupils_333 rfl ?_
                        refine gx_iload (q := 6) C dL_arePupils_334 rfl ?_
                        refine gx_iconst (v := 5) C dL_arePupils_336 (by decide) ?_
                        refine gx_callQ C hI (k_X6_ofPupil l (lw_pn hI) (IV_ok h) _ _) (cwV 2 C.2.2.2.2.1 gL_arePupils_X6_ofPupil rfl rfl rfl kdV_X6_ofPupil ⟨Nat.le_of_ble_eq_true rfl, Nat.le_of_ble_eq_true rfl⟩) rfl rfl (Nat.le_of_ble_eq_true rfl) ⟨Nat.le_of_ble_eq_true rfl, Nat.le_of_ble_eq_true rfl⟩ dL_arePupils_337 ?_
                        refine gx_iload (q := 10) C dL_arePupils_340 rfl ?_
                        refine gx_icmp_ne (tgt := 369) C dL_arePupils_342 (by decide) (fun c_342 => ?_) (fun c_342 => ?_)
                        · skip
                          exact absurd (B_5 h hz hlt_i) c_342
                        · skip
                          refine gx_aload_n (q := 1) C dL_arePupils_345 rfl ?_
                          refine gx_iload (q := 6) C dL_arePupils_346 rfl ?_
                          refine gx_iconst (v := 0) C dL_arePupils_348 (by decide) ?_
                          refine gx_callQ C hI (k_X6_firstFree l (lw_pn hI) (IV_ok h) _ _) (cwV 2 C.2.2.2.2.1 gL_arePupils_X6_firstFree rfl rfl rfl kdV_X6_firstFree ⟨Nat.le_of_ble_eq_true rfl, Nat.le_of_ble_eq_true rfl⟩) rfl rfl (Nat.le_of_ble_eq_true rfl) ⟨Nat.le_of_ble_eq_true rfl, Nat.le_of_ble_eq_true rfl⟩ dL_arePupils_349 ?_
                          refine gx_iload (q := 11) C dL_arePupils_352 rfl ?_
                          refine gx_icmp_ne (tgt := 369) C dL_arePupils_354 (by decide) (fun c_354 => ?_) (fun c_354 => ?_)
                          · skip
                            exact absurd (B_ff h hz hlt_i hA2).1 c_354
                          · skip
                            refine gx_aload_n (q := 1) C dL_arePupils_357 rfl ?_
                            refine gx_iload (q := 6) C dL_arePupils_358 rfl ?_
                            refine gx_iconst (v := 1) C dL_arePupils_360 (by decide) ?_
                            refine gx_callQ C hI (k_X6_firstFree l (lw_pn hI) (IV_ok h) _ _) (cwV 2 C.2.2.2.2.1 gL_arePupils_X6_firstFree rfl rfl rfl kdV_X6_firstFree ⟨Nat.le_of_ble_eq_true rfl, Nat.le_of_ble_eq_true rfl⟩) rfl rfl (Nat.le_of_ble_eq_true rfl) ⟨Nat.le_of_ble_eq_true rfl, Nat.le_of_ble_eq_true rfl⟩ dL_arePupils_361 ?_
                            refine gx_iload (q := 12) C dL_arePupils_364 rfl ?_
                            refine gx_icmp_eq (tgt := 371) C dL_arePupils_366 (by decide) (fun c_366 => ?_) (fun c_366 => ?_)
                            · skip
                              refine gx_iinc C (q := 6) (v := nI (i + 1)) [(5, _), (12, _), (0, _), (1, _), (2, _), (3, _), (4, _), (6, _), (7, _), (8, _), (9, _), (10, _), (11, _)] dL_arePupils_371 rfl (nI_inc i) (by decide) rfl ?_
                              refine gx_goto (tgt := 3) C dL_arePupils_374 (by decide) ?_
                              exact gx_back [2, 3, 4, 5, 6, 0] (ihi (i + 1) (by omega) (by omega)) rfl (by rfl)
                            · skip
                              exact absurd (B_ff h hz hlt_i hA2).2 c_366
            refine gx_iload (q := 0) C dL_arePupils_263 rfl ?_
            refine gx_if_ge (tgt := 273) C dL_arePupils_265 (by decide) (fun c_265 => ?_) (fun c_265 => ?_)
            · skip
              refine gx_iload (q := 0) C dL_arePupils_273 rfl ?_
              exact jj_263 _ ((if_pos c_265).trans (rfl)).symm
            · skip
              refine gx_bipush (v := (-6)) C dL_arePupils_268 (by decide) ?_
              refine gx_goto (tgt := 275) C dL_arePupils_270 (by decide) ?_
              exact jj_263 _ ((if_neg c_265).trans (rfl)).symm
          · skip
            skip
            refine gx_iconst (v := 0) C dL_arePupils_175 (by decide) ?_
            refine gx_istore C [(13, _), (0, _), (1, _), (2, _), (3, _), (4, _), (5, _), (6, _), (7, _), (8, _), (9, _), (10, _), (11, _), (12, _)] dL_arePupils_176 (by decide) rfl ?_
            refine gx_loop (σ := Nat × Int32 × Int32) (fun sw => f) (fun sw => [(0, .ref (AA 0)), (1, .ref (B 0)), (2, .ref (B 1)), (3, .ref (B 2)), (4, .ref (B 3)), (5, .int (nI i)), (6, .int (mk (lP0 z.2.1 (nI i)) n)), (7, .int (mk (lPk z.2.1 (nI i) 3) n)), (8, .int (mk (lPk z.2.1 (nI i) 4) n)), (9, .int (cnI (lBk z.2.2.1 (nI i)) 30)), (10, .int sw.2.1), (11, .int sw.2.2), (12, .int (nI a)), (13, .int (nI sw.1))]) (fun sw => sw.1 ≤ 5 ∧ FF z.2.2.1 (nI i) (z.1 0) (5 * a + sw.1) sw.2.1 sw.2.2) (fun sw => 5 - sw.1) (0, nv, fv) [1, 2, 3, 4, 5, 6, 7, 8, 9, 10, 11, 12, 13, 0] rfl rfl ?_ ?_
            · exact ⟨Nat.zero_le _, hA.2⟩
            intro ⟨w, nw, fw⟩ hW ihw
            try dsimp only at hW ihw ⊢
            refine gx_iload (q := 13) C dL_arePupils_178 rfl ?_
            refine gx_iconst (v := 5) C dL_arePupils_180 (by decide) ?_
            refine gx_icmp_ge (tgt := 241) C dL_arePupils_181 (by decide) (fun c_181 => ?_) (fun c_181 => ?_)
            · skip
              have hb_w := (nI_leI (a := 5) (b := w) (by decide) (by omega)).mp c_181
              have hA2 : FF z.2.2.1 (nI i) (z.1 0) (5 * (a + 1)) nw fw := by have := hW.2; rwa [show 5 * a + w = 5 * (a + 1) by have := hW.1; omega] at this
              refine gx_iinc C (q := 12) (v := nI (a + 1)) [(12, _), (0, _), (1, _), (2, _), (3, _), (4, _), (5, _), (6, _), (7, _), (8, _), (9, _), (10, _), (11, _), (13, _)] dL_arePupils_241 rfl (nI_inc a) (by decide) rfl ?_
              refine gx_goto (tgt := 163) C dL_arePupils_244 (by decide) ?_
              exact gx_back [1, 2, 3, 4, 5, 6, 7, 8, 9, 10, 11, 12, 0] (iha (a + 1, nw, fw) ⟨by show a + 1 ≤ 7; omega, by show FF _ _ _ (5 * (a + 1)) nw fw; exact hA2⟩ (by show 7 - (a + 1) < 7 - a; omega)) rfl (by rfl)
            · skip
              have hlt_w : w < 5 := Nat.lt_of_not_le (fun z => c_181 ((nI_leI (a := 5) (b := w) (by decide) (by omega)).mpr z))
              refine gx_iload (q := 10) C dL_arePupils_184 rfl ?_
              refine gx_if_ge (tgt := 241) C dL_arePupils_186 (by decide) (fun c_186 => ?_) (fun c_186 => ?_)
              · skip
                have hA2 : FF z.2.2.1 (nI i) (z.1 0) (5 * (a + 1)) nw fw := FF_far hW.2 c_186
                refine gx_iinc C (q := 12) (v := nI (a + 1)) [(12, _), (0, _), (1, _), (2, _), (3, _), (4, _), (5, _), (6, _), (7, _), (8, _), (9, _), (10, _), (11, _), (13, _)] dL_arePupils_241 rfl (nI_inc a) (by decide) rfl ?_
                refine gx_goto (tgt := 163) C dL_arePupils_244 (by decide) ?_
                exact gx_back [1, 2, 3, 4, 5, 6, 7, 8, 9, 10, 11, 12, 0] (iha (a + 1, nw, fw) ⟨by show a + 1 ≤ 7; omega, by show FF _ _ _ (5 * (a + 1)) nw fw; exact hA2⟩ (by show 7 - (a + 1) < 7 - a; omega)) rfl (by rfl)
              · skip
                have hno := Int32.not_le.mp c_186
                have hW0 := hW
                refine gx_iload (q := 12) C dL_arePupils_189 rfl ?_
                refine gx_bipush (v := 6) C dL_arePupils_191 (by decide) ?_
                refine gx_icmp_ge (tgt := 223) C dL_arePupils_193 (by decide) (fun c_193 => ?_) (fun c_193 => ?_)
                · skip
                  have hb_a6 := (nI_leI (a := 6) (b := a) (by decide) (by omega)).mp c_193
                  have hok : okL z.2.2.1 (nI i) a w := fun e => absurd e (by omega)
                  refine gx_aload_n (q := 1) C dL_arePupils_223 rfl ?_
                  refine gx_iconst (v := 0) C dL_arePupils_224 (by decide) ?_
                  refine gx_ialdN C (lw_mg hI) (lw_eg hI) (nLit 0) (by omega) (by decide) dL_arePupils_225 ?_
                  refine gx_iload (q := 12) C dL_arePupils_226 rfl ?_
                  refine gx_iadd C dL_arePupils_228 ?_
                  refine gx_istore C [(10, _), (0, _), (1, _), (2, _), (3, _), (4, _), (5, _), (6, _), (7, _), (8, _), (9, _), (11, _), (12, _), (13, _)] dL_arePupils_229 (by decide) rfl ?_
                  refine gx_iload (q := 13) C dL_arePupils_231 rfl ?_
                  refine gx_istore C [(11, _), (10, _), (0, _), (1, _), (2, _), (3, _), (4, _), (5, _), (6, _), (7, _), (8, _), (9, _), (12, _), (13, _)] dL_arePupils_233 (by decide) rfl ?_
                  refine gx_iinc C (q := 13) (v := nI (w + 1)) [(13, _), (11, _), (10, _), (0, _), (1, _), (2, _), (3, _), (4, _), (5, _), (6, _), (7, _), (8, _), (9, _), (12, _)] dL_arePupils_235 rfl (nI_inc w) (by decide) rfl ?_
                  refine gx_goto (tgt := 178) C dL_arePupils_238 (by decide) ?_
                  exact gx_back [3, 4, 5, 6, 7, 8, 9, 10, 11, 12, 2, 1, 13, 0] (ihw (w + 1, ((z.1 0) + (nI a)), (nI w)) ⟨by show w + 1 ≤ 5; omega, FF_hit hno hW0.2 hlt_a hlt_w (by rw [hnt, nI_add]; exact nI_pos (by omega)) hok⟩ (by show 5 - (w + 1) < 5 - w; omega)) rfl (by rfl)
                · skip
                  have hlt_a6 : a < 6 := Nat.lt_of_not_le (fun z => c_193 ((nI_leI (a := 6) (b := a) (by decide) (by omega)).mpr z))
                  refine gx_aload_n (q := 3) C dL_arePupils_196 rfl ?_
                  refine gx_bipush (v := 6) C dL_arePupils_197 (by decide) ?_
                  refine gx_iload (q := 13) C dL_arePupils_199 rfl ?_
                  refine gx_imul C dL_arePupils_201 ?_
                  refine gx_iload (q := 12) C dL_arePupils_202 rfl ?_
                  refine gx_iadd C dL_arePupils_204 ?_
                  refine gx_ialdN C (lw_mk hI) (lw_ek hI) (nAdd (nMul (nLit 6) rfl) rfl) (by omega) (by decide) dL_arePupils_205 ?_
                  refine gx_if_gt (tgt := 235) C dL_arePupils_206 (by decide) (fun c_206 => ?_) (fun c_206 => ?_)
                  · skip
                    have hok : ¬ okL z.2.2.1 (nI i) a w := fun e => (e hlt_a6).1 c_206
                    refine gx_iinc C (q := 13) (v := nI (w + 1)) [(13, _), (0, _), (1, _), (2, _), (3, _), (4, _), (5, _), (6, _), (7, _), (8, _), (9, _), (10, _), (11, _), (12, _)] dL_arePupils_235 rfl (nI_inc w) (by decide) rfl ?_
                    refine gx_goto (tgt := 178) C dL_arePupils_238 (by decide) ?_
                    exact gx_back [1, 2, 3, 4, 5, 6, 7, 8, 9, 10, 11, 12, 13, 0] (ihw (w + 1, nw, fw) ⟨by show w + 1 ≤ 5; omega, FF_miss hno hW0.2 hlt_w hok⟩ (by show 5 - (w + 1) < 5 - w; omega)) rfl (by rfl)
                  · skip
                    refine gx_iload (q := 5) C dL_arePupils_209 rfl ?_
                    refine gx_iload (q := 12) C dL_arePupils_211 rfl ?_
                    refine gx_aload_n (q := 3) C dL_arePupils_213 rfl ?_
                    refine gx_callRS C (k_L_wheel l (lw_mk hI) (lw_ek hI) (nI i) a (by omega)) (va_cwS 3 C.2.2.2.2.1 gL_arePupils_L_wheel rfl rfl rfl kdN_L_wheel ⟨Nat.le_of_ble_eq_true rfl, Nat.le_of_ble_eq_true rfl⟩) rfl rfl (Nat.le_of_ble_eq_true rfl) ⟨Nat.le_of_ble_eq_true rfl, Nat.le_of_ble_eq_true rfl⟩ dL_arePupils_214 ?_
                    refine gx_if_lt (tgt := 223) C dL_arePupils_217 (by decide) (fun c_217 => ?_) (fun c_217 => ?_)
                    · skip
                      have hok : okL z.2.2.1 (nI i) a w := fun _ => ⟨c_206, c_217⟩
                      refine gx_aload_n (q := 1) C dL_arePupils_223 rfl ?_
                      refine gx_iconst (v := 0) C dL_arePupils_224 (by decide) ?_
                      refine gx_ialdN C (lw_mg hI) (lw_eg hI) (nLit 0) (by omega) (by decide) dL_arePupils_225 ?_
                      refine gx_iload (q := 12) C dL_arePupils_226 rfl ?_
                      refine gx_iadd C dL_arePupils_228 ?_
                      refine gx_istore C [(10, _), (0, _), (1, _), (2, _), (3, _), (4, _), (5, _), (6, _), (7, _), (8, _), (9, _), (11, _), (12, _), (13, _)] dL_arePupils_229 (by decide) rfl ?_
                      refine gx_iload (q := 13) C dL_arePupils_231 rfl ?_
                      refine gx_istore C [(11, _), (10, _), (0, _), (1, _), (2, _), (3, _), (4, _), (5, _), (6, _), (7, _), (8, _), (9, _), (12, _), (13, _)] dL_arePupils_233 (by decide) rfl ?_
                      refine gx_iinc C (q := 13) (v := nI (w + 1)) [(13, _), (11, _), (10, _), (0, _), (1, _), (2, _), (3, _), (4, _), (5, _), (6, _), (7, _), (8, _), (9, _), (12, _)] dL_arePupils_235 rfl (nI_inc w) (by decide) rfl ?_
                      refine gx_goto (tgt := 178) C dL_arePupils_238 (by decide) ?_
                      exact gx_back [3, 4, 5, 6, 7, 8, 9, 10, 11, 12, 2, 1, 13, 0] (ihw (w + 1, ((z.1 0) + (nI a)), (nI w)) ⟨by show w + 1 ≤ 5; omega, FF_hit hno hW0.2 hlt_a hlt_w (by rw [hnt, nI_add]; exact nI_pos (by omega)) hok⟩ (by show 5 - (w + 1) < 5 - w; omega)) rfl (by rfl)
                    · skip
                      have hok : ¬ okL z.2.2.1 (nI i) a w := fun e => c_217 (e hlt_a6).2
                      refine gx_goto (tgt := 235) C dL_arePupils_220 (by decide) ?_
                      refine gx_iinc C (q := 13) (v := nI (w + 1)) [(13, _), (0, _), (1, _), (2, _), (3, _), (4, _), (5, _), (6, _), (7, _), (8, _), (9, _), (10, _), (11, _), (12, _)] dL_arePupils_235 rfl (nI_inc w) (by decide) rfl ?_
                      refine gx_goto (tgt := 178) C dL_arePupils_238 (by decide) ?_
                      exact gx_back [1, 2, 3, 4, 5, 6, 7, 8, 9, 10, 11, 12, 13, 0] (ihw (w + 1, nw, fw) ⟨by show w + 1 ≤ 5; omega, FF_miss hno hW0.2 hlt_w hok⟩ (by show 5 - (w + 1) < 5 - w; omega)) rfl (by rfl)
      · skip
        have hlt_bj : bj < 30 := Nat.lt_of_not_le (fun z => c_130 ((nI_leI (a := 30) (b := bj) (by decide) (by omega)).mpr z))
        refine gx_iload (q := 9) C dL_arePupils_133 rfl ?_
        refine gx_join (pc2 := 151) ((if (z.2.2.1 bj) = ((nI i) + 1) then 1 else 0) : Int32) ?_ (fun jj_135 => ?_)
        · skip
          refine gx_iadd C dL_arePupils_151 ?_
          refine gx_istore C [(9, _), (0, _), (1, _), (2, _), (3, _), (4, _), (5, _), (6, _), (7, _), (8, _), (10, _), (11, _), (12, _)] dL_arePupils_152 (by decide) rfl ?_
          refine gx_iinc C (q := 12) (v := nI (bj + 1)) [(12, _), (9, _), (0, _), (1, _), (2, _), (3, _), (4, _), (5, _), (6, _), (7, _), (8, _), (10, _), (11, _)] dL_arePupils_154 rfl (nI_inc bj) (by decide) rfl ?_
          refine gx_goto (tgt := 126) C dL_arePupils_157 (by decide) ?_
          have hst : cnI (lBk z.2.2.1 (nI i)) (bj + 1) = cnI (lBk z.2.2.1 (nI i)) bj + (if z.2.2.1 bj = nI i + 1 then 1 else 0) := cnI_if (by simp [lBk])
          exact gx_back [2, 3, 4, 5, 6, 7, 8, 9, 10, 1, 11, 12, 0] (ihb (bj + 1) (by omega) (by omega)) rfl (by rw [hst]; rfl)
        refine gx_aload_n (q := 3) C dL_arePupils_135 rfl ?_
        refine gx_iload (q := 12) C dL_arePupils_136 rfl ?_
        refine gx_ialdN C (lw_mk hI) (lw_ek hI) rfl (by omega) (by decide) dL_arePupils_138 ?_
        refine gx_iload (q := 5) C dL_arePupils_139 rfl ?_
        refine gx_iconst (v := 1) C dL_arePupils_141 (by decide) ?_
        refine gx_iadd C dL_arePupils_142 ?_
        refine gx_icmp_ne (tgt := 150) C dL_arePupils_143 (by decide) (fun c_143 => ?_) (fun c_143 => ?_)
        · skip
          refine gx_iconst (v := 0) C dL_arePupils_150 (by decide) ?_
          exact jj_135 _ ((if_neg c_143).trans (rfl)).symm
        · skip
          refine gx_iconst (v := 1) C dL_arePupils_146 (by decide) ?_
          refine gx_goto (tgt := 151) C dL_arePupils_147 (by decide) ?_
          exact jj_135 _ ((if_pos c_143).trans (rfl)).symm
    · skip
      have hlt_pj : pj < n := Nat.lt_of_not_le (fun z => c_39 ((nI_leI (by omega) (by omega)).mpr z))
      refine gx_aload_n (q := 2) C dL_arePupils_42 rfl ?_
      refine gx_iload (q := 12) C dL_arePupils_43 rfl ?_
      refine gx_laldN C (lw_mb hI) (lw_eb hI) rfl (by omega) (by decide) dL_arePupils_45 ?_
      refine gx_iconst (v := 0) C dL_arePupils_46 (by decide) ?_
      refine gx_callRS C (k_L_part l (z.2.1 pj) 0) (va_cwS 2 C.2.2.2.2.1 gL_arePupils_L_part rfl rfl rfl kdN_L_part ⟨Nat.le_of_ble_eq_true rfl, Nat.le_of_ble_eq_true rfl⟩) rfl rfl (Nat.le_of_ble_eq_true rfl) ⟨Nat.le_of_ble_eq_true rfl, Nat.le_of_ble_eq_true rfl⟩ dL_arePupils_47 ?_
      refine gx_iload (q := 5) C dL_arePupils_50 rfl ?_
      refine gx_icmp_eq (tgt := 58) C dL_arePupils_52 (by decide) (fun c_52 => ?_) (fun c_52 => ?_)
      · skip
        refine gx_iload (q := 6) C dL_arePupils_58 rfl ?_
        refine gx_iconst (v := 1) C dL_arePupils_60 (by decide) ?_
        refine gx_iload (q := 12) C dL_arePupils_61 rfl ?_
        refine gx_ishl C dL_arePupils_63 ?_
        refine gx_ior C dL_arePupils_64 ?_
        refine gx_istore C [(6, _), (0, _), (1, _), (2, _), (3, _), (4, _), (5, _), (7, _), (8, _), (9, _), (10, _), (11, _), (12, _)] dL_arePupils_65 (by decide) rfl ?_
        refine gx_iload (q := 7) C dL_arePupils_67 rfl ?_
        refine gx_join (pc2 := 89) ((if (pt (z.2.1 pj) 3) = 3 then (1 <<< ((nI pj) &&& 31)) else 0) : Int32) ?_ (fun jj_69 => ?_)
        · skip
          refine gx_ior C dL_arePupils_89 ?_
          refine gx_istore C [(7, _), (6, _), (0, _), (1, _), (2, _), (3, _), (4, _), (5, _), (8, _), (9, _), (10, _), (11, _), (12, _)] dL_arePupils_90 (by decide) rfl ?_
          refine gx_iload (q := 8) C dL_arePupils_92 rfl ?_
          refine gx_join (pc2 := 114) ((if (pt (z.2.1 pj) 3) = 4 then (1 <<< ((nI pj) &&& 31)) else 0) : Int32) ?_ (fun jj_94 => ?_)
          · skip
            refine gx_ior C dL_arePupils_114 ?_
            refine gx_istore C [(8, _), (7, _), (6, _), (0, _), (1, _), (2, _), (3, _), (4, _), (5, _), (9, _), (10, _), (11, _), (12, _)] dL_arePupils_115 (by decide) rfl ?_
            refine gx_iinc C (q := 12) (v := nI (pj + 1)) [(12, _), (8, _), (7, _), (6, _), (0, _), (1, _), (2, _), (3, _), (4, _), (5, _), (9, _), (10, _), (11, _)] dL_arePupils_117 rfl (nI_inc pj) (by decide) rfl ?_
            refine gx_goto (tgt := 33) C dL_arePupils_120 (by decide) ?_
            have hst0 : mk (lP0 z.2.1 (nI i)) (pj + 1) = mk (lP0 z.2.1 (nI i)) pj ||| ((1 : Int32) <<< (nI pj &&& 31)) := mk_t (decide_eq_true c_52)
            have hst3 := mk_or0 (P := lPk z.2.1 (nI i) 3) (n := pj) (c := pt (z.2.1 pj) 3 = 3) (by simp [lPk, c_52])
            have hst4 := mk_or0 (P := lPk z.2.1 (nI i) 4) (n := pj) (c := pt (z.2.1 pj) 3 = 4) (by simp [lPk, c_52])
            exact gx_back [4, 5, 6, 7, 8, 9, 3, 2, 1, 10, 11, 12, 0] (ihp (pj + 1) (by omega) (by omega)) rfl (by rw [hst0, hst3, hst4]; rfl)
          refine gx_aload_n (q := 4) C dL_arePupils_94 rfl ?_
          refine gx_iload (q := 12) C dL_arePupils_95 rfl ?_
          refine gx_laldN C (lw_mb hI) (lw_eb hI) rfl (by omega) (by decide) dL_arePupils_97 ?_
          refine gx_iconst (v := 3) C dL_arePupils_98 (by decide) ?_
          refine gx_callRS C (k_L_part l (z.2.1 pj) 3) (va_cwS 2 C.2.2.2.2.1 gL_arePupils_L_part rfl rfl rfl kdN_L_part ⟨Nat.le_of_ble_eq_true rfl, Nat.le_of_ble_eq_true rfl⟩) rfl rfl (Nat.le_of_ble_eq_true rfl) ⟨Nat.le_of_ble_eq_true rfl, Nat.le_of_ble_eq_true rfl⟩ dL_arePupils_99 ?_
          refine gx_iconst (v := 4) C dL_arePupils_102 (by decide) ?_
          refine gx_icmp_ne (tgt := 113) C dL_arePupils_103 (by decide) (fun c_103 => ?_) (fun c_103 => ?_)
          · skip
            refine gx_iconst (v := 0) C dL_arePupils_113 (by decide) ?_
            exact jj_94 _ ((if_neg c_103).trans (rfl)).symm
          · skip
            refine gx_iconst (v := 1) C dL_arePupils_106 (by decide) ?_
            refine gx_iload (q := 12) C dL_arePupils_107 rfl ?_
            refine gx_ishl C dL_arePupils_109 ?_
            refine gx_goto (tgt := 114) C dL_arePupils_110 (by decide) ?_
            exact jj_94 _ ((if_pos c_103).trans (rfl)).symm
        refine gx_aload_n (q := 3) C dL_arePupils_69 rfl ?_
        refine gx_iload (q := 12) C dL_arePupils_70 rfl ?_
        refine gx_laldN C (lw_mb hI) (lw_eb hI) rfl (by omega) (by decide) dL_arePupils_72 ?_
        refine gx_iconst (v := 3) C dL_arePupils_73 (by decide) ?_
        refine gx_callRS C (k_L_part l (z.2.1 pj) 3) (va_cwS 2 C.2.2.2.2.1 gL_arePupils_L_part rfl rfl rfl kdN_L_part ⟨Nat.le_of_ble_eq_true rfl, Nat.le_of_ble_eq_true rfl⟩) rfl rfl (Nat.le_of_ble_eq_true rfl) ⟨Nat.le_of_ble_eq_true rfl, Nat.le_of_ble_eq_true rfl⟩ dL_arePupils_74 ?_
        refine gx_iconst (v := 3) C dL_arePupils_77 (by decide) ?_
        refine gx_icmp_ne (tgt := 88) C dL_arePupils_78 (by decide) (fun c_78 => ?_) (fun c_78 => ?_)
        · skip
          refine gx_iconst (v := 0) C dL_arePupils_88 (by decide) ?_
          exact jj_69 _ ((if_neg c_78).trans (rfl)).symm
        · skip
          refine gx_iconst (v := 1) C dL_arePupils_81 (by decide) ?_
          refine gx_iload (q := 12) C dL_arePupils_82 rfl ?_
          refine gx_ishl C dL_arePupils_84 ?_
          refine gx_goto (tgt := 89) C dL_arePupils_85 (by decide) ?_
          exact jj_69 _ ((if_pos c_78).trans (rfl)).symm
      · skip
        refine gx_goto (tgt := 117) C dL_arePupils_55 (by decide) ?_
        refine gx_iinc C (q := 12) (v := nI (pj + 1)) [(12, _), (0, _), (1, _), (2, _), (3, _), (4, _), (5, _), (6, _), (7, _), (8, _), (9, _), (10, _), (11, _)] dL_arePupils_117 rfl (nI_inc pj) (by decide) rfl ?_
        refine gx_goto (tgt := 33) C dL_arePupils_120 (by decide) ?_
        have hst0 : mk (lP0 z.2.1 (nI i)) (pj + 1) = mk (lP0 z.2.1 (nI i)) pj := mk_f (decide_eq_false c_52)
        have hst3 : ∀ kd, mk (lPk z.2.1 (nI i) kd) (pj + 1) = mk (lPk z.2.1 (nI i) kd) pj := fun kd => mk_f (by simp [lPk, c_52])
        exact gx_back [1, 2, 3, 4, 5, 6, 7, 8, 9, 10, 11, 12, 0] (ihp (pj + 1) (by omega) (by omega)) rfl (by rw [hst0, hst3, hst3]; rfl)
