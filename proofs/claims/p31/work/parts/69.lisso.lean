/-! the law's look at all -/
theorem mk_or1 {P : Nat → Bool} {n : Nat} {c : Prop} [Decidable c] (h : P n = decide (¬ c)) : mk P (n + 1) = mk P n ||| (if c then 0 else (1 : Int32) <<< (nI n &&& 31)) := by
  by_cases e : c
  · rw [if_pos e, or0]; exact mk_f (h.trans (decide_eq_false (fun q => q e)))
  · rw [if_neg e]; exact mk_t (h.trans (decide_eq_true e))
theorem cnI_if1 {P : Nat → Bool} {n : Nat} {c : Prop} [Decidable c] (h : P n = decide (¬ c)) : cnI P (n + 1) = cnI P n + (if c then 0 else 1) := by
  by_cases e : c
  · rw [if_pos e, add0]; exact cnI_f (h.trans (decide_eq_false (fun q => q e)))
  · rw [if_neg e]; exact cnI_t (h.trans (decide_eq_true e))
theorem kdN_L_isSo : yL_isSo.cls ≠ "java/lang/invoke/MethodHandle" ∧ yL_isSo.cls ≠ "java/lang/invoke/VarHandle" ∧ (parseMethodDescriptor yL_isSo.desc).map (fun d => d.parameters.length) = some 5 := by decide +kernel
theorem kdV_L_isSo : yL_isSo.cls = RL ∧ yL_isSo.cls ≠ "java/lang/invoke/MethodHandle" ∧ yL_isSo.cls ≠ "java/lang/invoke/VarHandle" ∧ (parseMethodDescriptor yL_isSo.desc).map (fun d => d.parameters.length) = some 5 := ⟨rfl, kdN_L_isSo⟩
abbrev rmL_isSo : Room := { frames := 7, cells := 0, slots := 0, locals := 168 }
set_option maxHeartbeats 4000000 in
set_option maxRecDepth 100000 in
theorem k_L_isSo (l : Launch) {k : gK} {f : Nat → va_E} {L1 L2 : List Nat} {AA : Nat → Nat} {q : PS} {B : Nat → Nat} {z : ZS} (hI : isLW k L1 L2 f AA q B z) {J n np nt x0 : Nat} {zr : Nat → Int32} (h : IV J q zr z) (hz : LZn J n np nt x0 zr z) (hJ : J ≤ 100)   : kR l k (L1 ++ L2) f yL_isSo wsL_isSo rmL_isSo [.ref (AA 0), .ref (B 0), .ref (B 1), .ref (B 2), .ref (B 3)] (.int 1) := by
  refine kR_of (cc := cL_isSo) (maxL := 10) (ret := (some .boolean)) (by decide) rfl (Nat.le_of_ble_eq_true rfl) ?_
  intro p e s m args below meth c C hr
  have hn : z.1 7 = nI n := (hz.2.2.1 7 (by decide)).trans hz.2.1.1
  have hn2 : n ≤ 20 := hz.1.1
  have hnp : z.1 6 = nI np := (hz.2.2.1 6 (by decide)).trans hz.2.1.2.1
  have hnp2 : np ≤ 10 := hz.1.2.1
  refine gx_lv [(0, _), (1, _), (2, _), (3, _), (4, _)] [0, 1, 2, 3, 4] rfl ?_
  refine gx_iconst (v := 0) C dL_isSo_0 (by decide) ?_
  refine gx_istore C [(5, _), (0, _), (1, _), (2, _), (3, _), (4, _)] dL_isSo_1 (by decide) rfl ?_
  refine gx_iconst (v := 0) C dL_isSo_3 (by decide) ?_
  refine gx_istore C [(6, _), (5, _), (0, _), (1, _), (2, _), (3, _), (4, _)] dL_isSo_4 (by decide) rfl ?_
  refine gx_iconst (v := 0) C dL_isSo_6 (by decide) ?_
  refine gx_istore C [(7, _), (6, _), (5, _), (0, _), (1, _), (2, _), (3, _), (4, _)] dL_isSo_7 (by decide) rfl ?_
  refine gx_iconst (v := 0) C dL_isSo_9 (by decide) ?_
  refine gx_istore C [(8, _), (7, _), (6, _), (5, _), (0, _), (1, _), (2, _), (3, _), (4, _)] dL_isSo_10 (by decide) rfl ?_
  refine gx_iconst (v := 0) C dL_isSo_12 (by decide) ?_
  refine gx_istore C [(9, _), (8, _), (7, _), (6, _), (5, _), (0, _), (1, _), (2, _), (3, _), (4, _)] dL_isSo_13 (by decide) rfl ?_
  refine gx_loop (σ := Nat) (fun pj => f) (fun pj => [(0, .ref (AA 0)), (1, .ref (B 0)), (2, .ref (B 1)), (3, .ref (B 2)), (4, .ref (B 3)), (5, .int (mk (lRk z.2.1) pj)), (6, .int (mk (lKi z.2.1) pj)), (7, .int (mk (lCan z.1 z.2.1 n) pj)), (8, .int (cnI (lRk z.2.1) pj)), (9, .int (nI pj))]) (fun pj => pj ≤ n) (fun pj => n - pj) 0 [5, 6, 7, 8, 9, 4, 3, 2, 1, 0] rfl rfl ?_ ?_
  · exact Nat.zero_le _
  intro pj hPj ihp
  try dsimp only at hPj ihp ⊢
  refine gx_iload (q := 9) C dL_isSo_15 rfl ?_
  refine gx_aload_n (q := 1) C dL_isSo_17 rfl ?_
  refine gx_bipush (v := 7) C dL_isSo_18 (by decide) ?_
  refine gx_ialdN C (lw_mg hI) (lw_eg hI) (nLit 7) (by omega) (by decide) dL_isSo_20 ?_
  refine gx_top (nI n) hn ?_
  refine gx_icmp_ge (tgt := 141) C dL_isSo_21 (by decide) (fun c_21 => ?_) (fun c_21 => ?_)
  · skip
    have hb_pj := (nI_leI (by omega) (by omega)).mp c_21
    have hin : n = pj := by omega
    subst hin
    refine gx_iconst (v := 0) C dL_isSo_141 (by decide) ?_
    refine gx_istore C [(9, _), (0, _), (1, _), (2, _), (3, _), (4, _), (5, _), (6, _), (7, _), (8, _)] dL_isSo_142 (by decide) rfl ?_
    refine gx_loop (σ := Nat) (fun mj => f) (fun mj => [(0, .ref (AA 0)), (1, .ref (B 0)), (2, .ref (B 1)), (3, .ref (B 2)), (4, .ref (B 3)), (5, .int (mk (lRk z.2.1) n)), (6, .int (mk (lKi z.2.1) n)), (7, .int (mk (lCan z.1 z.2.1 n) n)), (8, .int (cnI (lRk z.2.1) n)), (9, .int (nI mj))]) (fun mj => mj ≤ 30) (fun mj => 30 - mj) 0 [1, 2, 3, 4, 5, 6, 7, 8, 9, 0] rfl rfl ?_ ?_
    · exact Nat.zero_le _
    intro mj hMj ihm
    try dsimp only at hMj ihm ⊢
    refine gx_iload (q := 9) C dL_isSo_144 rfl ?_
    refine gx_bipush (v := 30) C dL_isSo_146 (by decide) ?_
    refine gx_icmp_ge (tgt := 194) C dL_isSo_148 (by decide) (fun c_148 => ?_) (fun c_148 => ?_)
    · skip
      have hb_mj := (nI_leI (a := 30) (b := mj) (by decide) (by omega)).mp c_148
      refine gx_iconst (v := 0) C dL_isSo_194 (by decide) ?_
      refine gx_istore C [(9, _), (0, _), (1, _), (2, _), (3, _), (4, _), (5, _), (6, _), (7, _), (8, _)] dL_isSo_195 (by decide) rfl ?_
      refine gx_loop (σ := Nat) (fun ij => f) (fun ij => [(0, .ref (AA 0)), (1, .ref (B 0)), (2, .ref (B 1)), (3, .ref (B 2)), (4, .ref (B 3)), (5, .int (mk (lRk z.2.1) n)), (6, .int (mk (lKi z.2.1) n)), (7, .int (mk (lCan z.1 z.2.1 n) n)), (8, .int (cnI (lRk z.2.1) n)), (9, .int (nI ij))]) (fun ij => ij ≤ 4) (fun ij => 4 - ij) 0 [1, 2, 3, 4, 5, 6, 7, 8, 9, 0] rfl rfl ?_ ?_
      · exact Nat.zero_le _
      intro ij hIj ihj
      try dsimp only at hIj ihj ⊢
      refine gx_iload (q := 9) C dL_isSo_197 rfl ?_
      refine gx_iconst (v := 4) C dL_isSo_199 (by decide) ?_
      refine gx_icmp_ge (tgt := 248) C dL_isSo_200 (by decide) (fun c_200 => ?_) (fun c_200 => ?_)
      · skip
        have hb_ij := (nI_leI (a := 4) (b := ij) (by decide) (by omega)).mp c_200
        refine gx_aload_n (q := 0) C dL_isSo_248 rfl ?_
        refine gx_aload_n (q := 1) C dL_isSo_249 rfl ?_
        refine gx_aload_n (q := 2) C dL_isSo_250 rfl ?_
        refine gx_aload_n (q := 3) C dL_isSo_251 rfl ?_
        refine gx_aload (q := 4) C dL_isSo_252 rfl ?_
        refine gx_callRS C (k_L_arePupils l hI h hz hJ) (va_cwS 5 C.2.2.2.2.1 gL_isSo_L_arePupils rfl rfl rfl kdN_L_arePupils ⟨Nat.le_of_ble_eq_true rfl, Nat.le_of_ble_eq_true rfl⟩) rfl rfl (Nat.le_of_ble_eq_true rfl) ⟨Nat.le_of_ble_eq_true rfl, Nat.le_of_ble_eq_true rfl⟩ dL_isSo_254 ?_
        refine gx_if_eq (tgt := 396) C dL_isSo_257 (by decide) (fun c_257 => ?_) (fun c_257 => ?_)
        exact absurd c_257 (by decide)
        refine gx_aload_n (q := 0) C dL_isSo_260 rfl ?_
        refine gx_iconst (v := 0) C dL_isSo_261 (by decide) ?_
        refine gx_callQ C hI (k_X6_count l (lw_pn hI) (IV_ok h) _) (cwV 1 C.2.2.2.2.1 gL_isSo_X6_count rfl rfl rfl kdV_X6_count ⟨Nat.le_of_ble_eq_true rfl, Nat.le_of_ble_eq_true rfl⟩) rfl rfl (Nat.le_of_ble_eq_true rfl) ⟨Nat.le_of_ble_eq_true rfl, Nat.le_of_ble_eq_true rfl⟩ dL_isSo_262 ?_
        refine gx_aload_n (q := 1) C dL_isSo_265 rfl ?_
        refine gx_iconst (v := 0) C dL_isSo_266 (by decide) ?_
        refine gx_ialdN C (lw_mg hI) (lw_eg hI) (nLit 0) (by omega) (by decide) dL_isSo_267 ?_
        refine gx_icmp_ne (tgt := 396) C dL_isSo_268 (by decide) (fun c_268 => ?_) (fun c_268 => ?_)
        · skip
          exact absurd (C_0 h hz) c_268
        · skip
          refine gx_aload_n (q := 0) C dL_isSo_271 rfl ?_
          refine gx_iconst (v := 1) C dL_isSo_272 (by decide) ?_
          refine gx_callQ C hI (k_X6_count l (lw_pn hI) (IV_ok h) _) (cwV 1 C.2.2.2.2.1 gL_isSo_X6_count rfl rfl rfl kdV_X6_count ⟨Nat.le_of_ble_eq_true rfl, Nat.le_of_ble_eq_true rfl⟩) rfl rfl (Nat.le_of_ble_eq_true rfl) ⟨Nat.le_of_ble_eq_true rfl, Nat.le_of_ble_eq_true rfl⟩ dL_isSo_273 ?_
          refine gx_aload_n (q := 1) C dL_isSo_276 rfl ?_
          refine gx_bipush (v := 6) C dL_isSo_277 (by decide) ?_
          refine gx_ialdN C (lw_mg hI) (lw_eg hI) (nLit 6) (by omega) (by decide) dL_isSo_279 ?_
          refine gx_icmp_ne (tgt := 396) C dL_isSo_280 (by decide) (fun c_280 => ?_) (fun c_280 => ?_)
          · skip
            exact absurd (C_1 h hz) c_280
          · skip
            refine gx_aload_n (q := 0) C dL_isSo_283 rfl ?_
            refine gx_iconst (v := 2) C dL_isSo_284 (by decide) ?_
            refine gx_callQ C hI (k_X6_count l (lw_pn hI) (IV_ok h) _) (cwV 1 C.2.2.2.2.1 gL_isSo_X6_count rfl rfl rfl kdV_X6_count ⟨Nat.le_of_ble_eq_true rfl, Nat.le_of_ble_eq_true rfl⟩) rfl rfl (Nat.le_of_ble_eq_true rfl) ⟨Nat.le_of_ble_eq_true rfl, Nat.le_of_ble_eq_true rfl⟩ dL_isSo_285 ?_
            refine gx_aload_n (q := 1) C dL_isSo_288 rfl ?_
            refine gx_bipush (v := 7) C dL_isSo_289 (by decide) ?_
            refine gx_ialdN C (lw_mg hI) (lw_eg hI) (nLit 7) (by omega) (by decide) dL_isSo_291 ?_
            refine gx_icmp_ne (tgt := 396) C dL_isSo_292 (by decide) (fun c_292 => ?_) (fun c_292 => ?_)
            · skip
              exact absurd (C_2 h hz) c_292
            · skip
              refine gx_aload_n (q := 0) C dL_isSo_295 rfl ?_
              refine gx_iconst (v := 3) C dL_isSo_296 (by decide) ?_
              refine gx_callQ C hI (k_X6_count l (lw_pn hI) (IV_ok h) _) (cwV 1 C.2.2.2.2.1 gL_isSo_X6_count rfl rfl rfl kdV_X6_count ⟨Nat.le_of_ble_eq_true rfl, Nat.le_of_ble_eq_true rfl⟩) rfl rfl (Nat.le_of_ble_eq_true rfl) ⟨Nat.le_of_ble_eq_true rfl, Nat.le_of_ble_eq_true rfl⟩ dL_isSo_297 ?_
              refine gx_iload (q := 5) C dL_isSo_300 rfl ?_
              refine gx_icmp_ne (tgt := 396) C dL_isSo_302 (by decide) (fun c_302 => ?_) (fun c_302 => ?_)
              · skip
                exact absurd (C_3 h hz) c_302
              · skip
                refine gx_aload_n (q := 0) C dL_isSo_305 rfl ?_
                refine gx_iconst (v := 4) C dL_isSo_306 (by decide) ?_
                refine gx_callQ C hI (k_X6_count l (lw_pn hI) (IV_ok h) _) (cwV 1 C.2.2.2.2.1 gL_isSo_X6_count rfl rfl rfl kdV_X6_count ⟨Nat.le_of_ble_eq_true rfl, Nat.le_of_ble_eq_true rfl⟩) rfl rfl (Nat.le_of_ble_eq_true rfl) ⟨Nat.le_of_ble_eq_true rfl, Nat.le_of_ble_eq_true rfl⟩ dL_isSo_307 ?_
                refine gx_iload (q := 6) C dL_isSo_310 rfl ?_
                refine gx_icmp_ne (tgt := 396) C dL_isSo_312 (by decide) (fun c_312 => ?_) (fun c_312 => ?_)
                · skip
                  exact absurd (C_4 h hz) c_312
                · skip
                  refine gx_aload_n (q := 0) C dL_isSo_315 rfl ?_
                  refine gx_iconst (v := 5) C dL_isSo_316 (by decide) ?_
                  refine gx_callQ C hI (k_X6_count l (lw_pn hI) (IV_ok h) _) (cwV 1 C.2.2.2.2.1 gL_isSo_X6_count rfl rfl rfl kdV_X6_count ⟨Nat.le_of_ble_eq_true rfl, Nat.le_of_ble_eq_true rfl⟩) rfl rfl (Nat.le_of_ble_eq_true rfl) ⟨Nat.le_of_ble_eq_true rfl, Nat.le_of_ble_eq_true rfl⟩ dL_isSo_317 ?_
                  refine gx_aload_n (q := 1) C dL_isSo_320 rfl ?_
                  refine gx_aload_n (q := 2) C dL_isSo_321 rfl ?_
                  refine gx_callRS C (k_L_inKiln l (lw_mg hI) (lw_eg hI) (lw_mb hI) (lw_eb hI) hn hn2) (va_cwS 2 C.2.2.2.2.1 gL_isSo_L_inKiln rfl rfl rfl kdN_L_inKiln ⟨Nat.le_of_ble_eq_true rfl, Nat.le_of_ble_eq_true rfl⟩) rfl rfl (Nat.le_of_ble_eq_true rfl) ⟨Nat.le_of_ble_eq_true rfl, Nat.le_of_ble_eq_true rfl⟩ dL_isSo_322 ?_
                  refine gx_icmp_ne (tgt := 396) C dL_isSo_325 (by decide) (fun c_325 => ?_) (fun c_325 => ?_)
                  · skip
                    exact absurd (C_5 h hz) c_325
                  · skip
                    refine gx_aload_n (q := 0) C dL_isSo_328 rfl ?_
                    refine gx_bipush (v := 6) C dL_isSo_329 (by decide) ?_
                    refine gx_callQ C hI (k_X6_count l (lw_pn hI) (IV_ok h) _) (cwV 1 C.2.2.2.2.1 gL_isSo_X6_count rfl rfl rfl kdV_X6_count ⟨Nat.le_of_ble_eq_true rfl, Nat.le_of_ble_eq_true rfl⟩) rfl rfl (Nat.le_of_ble_eq_true rfl) ⟨Nat.le_of_ble_eq_true rfl, Nat.le_of_ble_eq_true rfl⟩ dL_isSo_331 ?_
                    refine gx_bipush (v := 24) C dL_isSo_334 (by decide) ?_
                    refine gx_iload (q := 8) C dL_isSo_336 rfl ?_
                    refine gx_isub C dL_isSo_338 ?_
                    refine gx_icmp_ne (tgt := 396) C dL_isSo_339 (by decide) (fun c_339 => ?_) (fun c_339 => ?_)
                    · skip
                      exact absurd (C_6 h hz) c_339
                    · skip
                      refine gx_aload_n (q := 0) C dL_isSo_342 rfl ?_
                      refine gx_bipush (v := 7) C dL_isSo_343 (by decide) ?_
                      refine gx_callQ C hI (k_X6_count l (lw_pn hI) (IV_ok h) _) (cwV 1 C.2.2.2.2.1 gL_isSo_X6_count rfl rfl rfl kdV_X6_count ⟨Nat.le_of_ble_eq_true rfl, Nat.le_of_ble_eq_true rfl⟩) rfl rfl (Nat.le_of_ble_eq_true rfl) ⟨Nat.le_of_ble_eq_true rfl, Nat.le_of_ble_eq_true rfl⟩ dL_isSo_345 ?_
                      refine gx_iload (q := 7) C dL_isSo_348 rfl ?_
                      refine gx_icmp_ne (tgt := 396) C dL_isSo_350 (by decide) (fun c_350 => ?_) (fun c_350 => ?_)
                      · skip
                        exact absurd (C_7 h hz) c_350
                      · skip
                        refine gx_aload_n (q := 0) C dL_isSo_353 rfl ?_
                        refine gx_bipush (v := 8) C dL_isSo_354 (by decide) ?_
                        refine gx_callQ C hI (k_X6_count l (lw_pn hI) (IV_ok h) _) (cwV 1 C.2.2.2.2.1 gL_isSo_X6_count rfl rfl rfl kdV_X6_count ⟨Nat.le_of_ble_eq_true rfl, Nat.le_of_ble_eq_true rfl⟩) rfl rfl (Nat.le_of_ble_eq_true rfl) ⟨Nat.le_of_ble_eq_true rfl, Nat.le_of_ble_eq_true rfl⟩ dL_isSo_356 ?_
                        refine gx_aload_n (q := 1) C dL_isSo_359 rfl ?_
                        refine gx_bipush (v := 8) C dL_isSo_360 (by decide) ?_
                        refine gx_ialdN C (lw_mg hI) (lw_eg hI) (nLit 8) (by omega) (by decide) dL_isSo_362 ?_
                        refine gx_icmp_ne (tgt := 396) C dL_isSo_363 (by decide) (fun c_363 => ?_) (fun c_363 => ?_)
                        · skip
                          exact absurd (C_8 h hz) c_363
                        · skip
                          refine gx_aload_n (q := 0) C dL_isSo_366 rfl ?_
                          refine gx_bipush (v := 9) C dL_isSo_367 (by decide) ?_
                          refine gx_callQ C hI (k_X6_count l (lw_pn hI) (IV_ok h) _) (cwV 1 C.2.2.2.2.1 gL_isSo_X6_count rfl rfl rfl kdV_X6_count ⟨Nat.le_of_ble_eq_true rfl, Nat.le_of_ble_eq_true rfl⟩) rfl rfl (Nat.le_of_ble_eq_true rfl) ⟨Nat.le_of_ble_eq_true rfl, Nat.le_of_ble_eq_true rfl⟩ dL_isSo_369 ?_
                          refine gx_aload_n (q := 1) C dL_isSo_372 rfl ?_
                          refine gx_bipush (v := 9) C dL_isSo_373 (by decide) ?_
                          refine gx_ialdN C (lw_mg hI) (lw_eg hI) (nLit 9) (by omega) (by decide) dL_isSo_375 ?_
                          refine gx_icmp_ne (tgt := 396) C dL_isSo_376 (by decide) (fun c_376 => ?_) (fun c_376 => ?_)
                          · skip
                            exact absurd (C_9 h hz) c_376
                          · skip
                            refine gx_aload_n (q := 0) C dL_isSo_379 rfl ?_
                            refine gx_bipush (v := 10) C dL_isSo_380 (by decide) ?_
                            refine gx_callQ C hI (k_X6_count l (lw_pn hI) (IV_ok h) _) (cwV 1 C.2.2.2.2.1 gL_isSo_X6_count rfl rfl rfl kdV_X6_count ⟨Nat.le_of_ble_eq_true rfl, Nat.le_of_ble_eq_true rfl⟩) rfl rfl (Nat.le_of_ble_eq_true rfl) ⟨Nat.le_of_ble_eq_true rfl, Nat.le_of_ble_eq_true rfl⟩ dL_isSo_382 ?_
                            refine gx_aload_n (q := 1) C dL_isSo_385 rfl ?_
                            refine gx_bipush (v := 10) C dL_isSo_386 (by decide) ?_
                            refine gx_ialdN C (lw_mg hI) (lw_eg hI) (nLit 10) (by omega) (by decide) dL_isSo_388 ?_
                            refine gx_icmp_ne (tgt := 396) C dL_isSo_389 (by decide) (fun c_389 => ?_) (fun c_389 => ?_)
                            · skip
                              exact absurd (C_10 h hz) c_389
                            · skip
                              refine gx_iconst (v := 1) C dL_isSo_392 (by decide) ?_
                              refine gx_goto (tgt := 397) C dL_isSo_393 (by decide) ?_
                              exact gx_zretR C rfl hr (Or.inr rfl) dL_isSo_397 rfl
      · skip
        have hlt_ij : ij < 4 := Nat.lt_of_not_le (fun z => c_200 ((nI_leI (a := 4) (b := ij) (by decide) (by omega)).mpr z))
        refine gx_aload_n (q := 0) C dL_isSo_203 rfl ?_
        refine gx_bipush (v := 11) C dL_isSo_204 (by decide) ?_
        refine gx_iload (q := 9) C dL_isSo_206 rfl ?_
        refine gx_iadd C dL_isSo_208 ?_
        refine gx_top (nI (11 + ij)) (nAdd (nLit 11) rfl) ?_
        refine gx_callQ C hI (k_X6_count l (lw_pn hI) (IV_ok h) _) (cwV 1 C.2.2.2.2.1 gL_isSo_X6_count rfl rfl rfl kdV_X6_count ⟨Nat.le_of_ble_eq_true rfl, Nat.le_of_ble_eq_true rfl⟩) rfl rfl (Nat.le_of_ble_eq_true rfl) ⟨Nat.le_of_ble_eq_true rfl, Nat.le_of_ble_eq_true rfl⟩ dL_isSo_209 ?_
        refine gx_aload_n (q := 1) C dL_isSo_212 rfl ?_
        refine gx_bipush (v := 11) C dL_isSo_213 (by decide) ?_
        refine gx_iload (q := 9) C dL_isSo_215 rfl ?_
        refine gx_iadd C dL_isSo_217 ?_
        refine gx_ialdN C (lw_mg hI) (lw_eg hI) (nAdd (nLit 11) rfl) (by omega) (by decide) dL_isSo_218 ?_
        refine gx_icmp_ne (tgt := 240) C dL_isSo_219 (by decide) (fun c_219 => ?_) (fun c_219 => ?_)
        · skip
          exact absurd (C_11 h hz hlt_ij) c_219
        · skip
          refine gx_aload_n (q := 0) C dL_isSo_222 rfl ?_
          refine gx_bipush (v := 15) C dL_isSo_223 (by decide) ?_
          refine gx_iload (q := 9) C dL_isSo_225 rfl ?_
          refine gx_iadd C dL_isSo_227 ?_
          refine gx_top (nI (15 + ij)) (nAdd (nLit 15) rfl) ?_
          refine gx_callQ C hI (k_X6_count l (lw_pn hI) (IV_ok h) _) (cwV 1 C.2.2.2.2.1 gL_isSo_X6_count rfl rfl rfl kdV_X6_count ⟨Nat.le_of_ble_eq_true rfl, Nat.le_of_ble_eq_true rfl⟩) rfl rfl (Nat.le_of_ble_eq_true rfl) ⟨Nat.le_of_ble_eq_true rfl, Nat.le_of_ble_eq_true rfl⟩ dL_isSo_228 ?_
          refine gx_aload_n (q := 1) C dL_isSo_231 rfl ?_
          refine gx_iconst (v := 2) C dL_isSo_232 (by decide) ?_
          refine gx_iload (q := 9) C dL_isSo_233 rfl ?_
          refine gx_iadd C dL_isSo_235 ?_
          refine gx_ialdN C (lw_mg hI) (lw_eg hI) (nAdd (nLit 2) rfl) (by omega) (by decide) dL_isSo_236 ?_
          refine gx_icmp_eq (tgt := 242) C dL_isSo_237 (by decide) (fun c_237 => ?_) (fun c_237 => ?_)
          · skip
            refine gx_iinc C (q := 9) (v := nI (ij + 1)) [(9, _), (0, _), (1, _), (2, _), (3, _), (4, _), (5, _), (6, _), (7, _), (8, _)] dL_isSo_242 rfl (nI_inc ij) (by decide) rfl ?_
            refine gx_goto (tgt := 197) C dL_isSo_245 (by decide) ?_
            exact gx_back [1, 2, 3, 4, 5, 6, 7, 8, 9, 0] (ihj (ij + 1) (by omega) (by omega)) rfl (by rfl)
          · skip
            exact absurd (C_15 h hz hlt_ij) c_237
    · skip
      have hlt_mj : mj < 30 := Nat.lt_of_not_le (fun z => c_148 ((nI_leI (a := 30) (b := mj) (by decide) (by omega)).mpr z))
      refine gx_aload_n (q := 0) C dL_isSo_151 rfl ?_
      refine gx_iload (q := 9) C dL_isSo_152 rfl ?_
      refine gx_bipush (v := 6) C dL_isSo_154 (by decide) ?_
      refine gx_idiv C (by decide) dL_isSo_156 ?_
      refine gx_top (nI (mj / 6)) (by rw [show (6 : Int32) = nI 6 from rfl]; exact pk_div (by omega) (by decide) (by decide)) ?_
      refine gx_iload (q := 9) C dL_isSo_157 rfl ?_
      refine gx_bipush (v := 6) C dL_isSo_159 (by decide) ?_
      refine gx_irem C (by decide) dL_isSo_161 ?_
      refine gx_top (nI (mj % 6)) (by rw [show (6 : Int32) = nI 6 from rfl]; exact pk_rem (by omega) (by decide) (by decide)) ?_
      refine gx_callQ C hI (k_X6_booked l (lw_pn hI) (IV_ok h) _ _) (cwV 2 C.2.2.2.2.1 gL_isSo_X6_booked rfl rfl rfl kdV_X6_booked ⟨Nat.le_of_ble_eq_true rfl, Nat.le_of_ble_eq_true rfl⟩) rfl rfl (Nat.le_of_ble_eq_true rfl) ⟨Nat.le_of_ble_eq_true rfl, Nat.le_of_ble_eq_true rfl⟩ dL_isSo_162 ?_
      refine gx_join (pc2 := 183) ((if (z.2.2.1 mj) = 0 then (-6) else ((z.2.2.1 mj) - 1)) : Int32) ?_ (fun jj_165 => ?_)
      · skip
        refine gx_icmp_eq (tgt := 188) C dL_isSo_183 (by decide) (fun c_183 => ?_) (fun c_183 => ?_)
        · skip
          refine gx_iinc C (q := 9) (v := nI (mj + 1)) [(9, _), (0, _), (1, _), (2, _), (3, _), (4, _), (5, _), (6, _), (7, _), (8, _)] dL_isSo_188 rfl (nI_inc mj) (by decide) rfl ?_
          refine gx_goto (tgt := 144) C dL_isSo_191 (by decide) ?_
          exact gx_back [1, 2, 3, 4, 5, 6, 7, 8, 9, 0] (ihm (mj + 1) (by omega) (by omega)) rfl (by rfl)
        · skip
          exact absurd (C_bk h hz hlt_mj) c_183
      refine gx_aload_n (q := 3) C dL_isSo_165 rfl ?_
      refine gx_iload (q := 9) C dL_isSo_166 rfl ?_
      refine gx_ialdN C (lw_mk hI) (lw_ek hI) rfl (by omega) (by decide) dL_isSo_168 ?_
      refine gx_if_ne (tgt := 177) C dL_isSo_169 (by decide) (fun c_169 => ?_) (fun c_169 => ?_)
      · skip
        refine gx_aload_n (q := 3) C dL_isSo_177 rfl ?_
        refine gx_iload (q := 9) C dL_isSo_178 rfl ?_
        refine gx_ialdN C (lw_mk hI) (lw_ek hI) rfl (by omega) (by decide) dL_isSo_180 ?_
        refine gx_iconst (v := 1) C dL_isSo_181 (by decide) ?_
        refine gx_isub C dL_isSo_182 ?_
        exact jj_165 _ ((if_neg c_169).trans (rfl)).symm
      · skip
        refine gx_bipush (v := (-6)) C dL_isSo_172 (by decide) ?_
        refine gx_goto (tgt := 183) C dL_isSo_174 (by decide) ?_
        exact jj_165 _ ((if_pos c_169).trans (rfl)).symm
  · skip
    have hlt_pj : pj < n := Nat.lt_of_not_le (fun z => c_21 ((nI_leI (by omega) (by omega)).mpr z))
    refine gx_aload_n (q := 0) C dL_isSo_24 rfl ?_
    refine gx_iload (q := 9) C dL_isSo_25 rfl ?_
    refine gx_aload_n (q := 1) C dL_isSo_27 rfl ?_
    refine gx_aload_n (q := 2) C dL_isSo_28 rfl ?_
    refine gx_callRS C (k_L_isPot l hI h hz hJ pj (by omega)) (va_cwS 4 C.2.2.2.2.1 gL_isSo_L_isPot rfl rfl rfl kdN_L_isPot ⟨Nat.le_of_ble_eq_true rfl, Nat.le_of_ble_eq_true rfl⟩) rfl rfl (Nat.le_of_ble_eq_true rfl) ⟨Nat.le_of_ble_eq_true rfl, Nat.le_of_ble_eq_true rfl⟩ dL_isSo_29 ?_
    refine gx_if_ne (tgt := 37) C dL_isSo_32 (by decide) (fun c_32 => ?_) (fun c_32 => ?_)
    refine gx_iload (q := 5) C dL_isSo_37 rfl ?_
    refine gx_join (pc2 := 60) ((if 24 ≤ (pt (z.2.1 pj) 4) then 0 else (1 <<< ((nI pj) &&& 31))) : Int32) ?_ (fun jj_39 => ?_)
    · skip
      refine gx_ior C dL_isSo_60 ?_
      refine gx_istore C [(5, _), (0, _), (1, _), (2, _), (3, _), (4, _), (6, _), (7, _), (8, _), (9, _)] dL_isSo_61 (by decide) rfl ?_
      refine gx_iload (q := 6) C dL_isSo_63 rfl ?_
      refine gx_join (pc2 := 86) ((if (pt (z.2.1 pj) 4) = 24 then (1 <<< ((nI pj) &&& 31)) else 0) : Int32) ?_ (fun jj_65 => ?_)
      · skip
        refine gx_ior C dL_isSo_86 ?_
        refine gx_istore C [(6, _), (5, _), (0, _), (1, _), (2, _), (3, _), (4, _), (7, _), (8, _), (9, _)] dL_isSo_87 (by decide) rfl ?_
        refine gx_iload (q := 7) C dL_isSo_89 rfl ?_
        refine gx_join (pc2 := 109) ((if (lWhy z.1 z.2.1 n pj) = 0 then (1 <<< ((nI pj) &&& 31)) else 0) : Int32) ?_ (fun jj_91 => ?_)
        · skip
          refine gx_ior C dL_isSo_109 ?_
          refine gx_istore C [(7, _), (6, _), (5, _), (0, _), (1, _), (2, _), (3, _), (4, _), (8, _), (9, _)] dL_isSo_110 (by decide) rfl ?_
          refine gx_iload (q := 8) C dL_isSo_112 rfl ?_
          refine gx_join (pc2 := 132) ((if 24 ≤ (pt (z.2.1 pj) 4) then 0 else 1) : Int32) ?_ (fun jj_114 => ?_)
          · skip
            refine gx_iadd C dL_isSo_132 ?_
            refine gx_istore C [(8, _), (7, _), (6, _), (5, _), (0, _), (1, _), (2, _), (3, _), (4, _), (9, _)] dL_isSo_133 (by decide) rfl ?_
            refine gx_iinc C (q := 9) (v := nI (pj + 1)) [(9, _), (8, _), (7, _), (6, _), (5, _), (0, _), (1, _), (2, _), (3, _), (4, _)] dL_isSo_135 rfl (nI_inc pj) (by decide) rfl ?_
            refine gx_goto (tgt := 15) C dL_isSo_138 (by decide) ?_
            have e1 := mk_or1 (P := lRk z.2.1) (n := pj) (c := 24 ≤ pt (z.2.1 pj) 4) rfl
            have e2 := mk_or0 (P := lKi z.2.1) (n := pj) (c := pt (z.2.1 pj) 4 = 24) rfl
            have e3 := mk_or0 (P := lCan z.1 z.2.1 n) (n := pj) (c := lWhy z.1 z.2.1 n pj = 0) rfl
            have e4 := cnI_if1 (P := lRk z.2.1) (n := pj) (c := 24 ≤ pt (z.2.1 pj) 4) rfl
            exact gx_back [5, 6, 7, 8, 9, 4, 3, 2, 1, 0] (ihp (pj + 1) (by omega) (by omega)) rfl (by rw [e1, e2, e3, e4]; rfl)
          refine gx_aload_n (q := 5) C dL_isSo_114 rfl ?_
          refine gx_iload (q := 9) C dL_isSo_115 rfl ?_
          refine gx_laldN C (lw_mb hI) (lw_eb hI) rfl (by omega) (by decide) dL_isSo_117 ?_
          refine gx_iconst (v := 4) C dL_isSo_118 (by decide) ?_
          refine gx_callRS C (k_L_part l (z.2.1 pj) 4) (va_cwS 2 C.2.2.2.2.1 gL_isSo_L_part rfl rfl rfl kdN_L_part ⟨Nat.le_of_ble_eq_true rfl, Nat.le_of_ble_eq_true rfl⟩) rfl rfl (Nat.le_of_ble_eq_true rfl) ⟨Nat.le_of_ble_eq_true rfl, Nat.le_of_ble_eq_true rfl⟩ dL_isSo_119 ?_
          refine gx_bipush (v := 24) C dL_isSo_122 (by decide) ?_
          refine gx_icmp_ge (tgt := 131) C dL_isSo_124 (by decide) (fun c_124 => ?_) (fun c_124 => ?_)
          · skip
            refine gx_iconst (v := 0) C dL_isSo_131 (by decide) ?_
            exact jj_114 _ ((if_pos c_124).trans (rfl)).symm
          · skip
            refine gx_iconst (v := 1) C dL_isSo_127 (by decide) ?_
            refine gx_goto (tgt := 132) C dL_isSo_128 (by decide) ?_
            exact jj_114 _ ((if_neg c_124).trans (rfl)).symm
        refine gx_iload (q := 9) C dL_isSo_91 rfl ?_
        refine gx_aload_n (q := 3) C dL_isSo_93 rfl ?_
        refine gx_aload_n (q := 4) C dL_isSo_94 rfl ?_
        refine gx_callRS C (k_L_why l (lw_mg hI) (lw_eg hI) (lw_mb hI) (lw_eb hI) pj hn hn2 (by omega)) (va_cwS 3 C.2.2.2.2.1 gL_isSo_L_why rfl rfl rfl kdN_L_why ⟨Nat.le_of_ble_eq_true rfl, Nat.le_of_ble_eq_true rfl⟩) rfl rfl (Nat.le_of_ble_eq_true rfl) ⟨Nat.le_of_ble_eq_true rfl, Nat.le_of_ble_eq_true rfl⟩ dL_isSo_95 ?_
        refine gx_if_ne (tgt := 108) C dL_isSo_98 (by decide) (fun c_98 => ?_) (fun c_98 => ?_)
        · skip
          refine gx_iconst (v := 0) C dL_isSo_108 (by decide) ?_
          exact jj_91 _ ((if_neg c_98).trans (rfl)).symm
        · skip
          refine gx_iconst (v := 1) C dL_isSo_101 (by decide) ?_
          refine gx_iload (q := 9) C dL_isSo_102 rfl ?_
          refine gx_ishl C dL_isSo_104 ?_
          refine gx_goto (tgt := 109) C dL_isSo_105 (by decide) ?_
          exact jj_91 _ ((if_pos c_98).trans (rfl)).symm
      refine gx_aload_n (q := 3) C dL_isSo_65 rfl ?_
      refine gx_iload (q := 9) C dL_isSo_66 rfl ?_
      refine gx_laldN C (lw_mb hI) (lw_eb hI) rfl (by omega) (by decide) dL_isSo_68 ?_
      refine gx_iconst (v := 4) C dL_isSo_69 (by decide) ?_
      refine gx_callRS C (k_L_part l (z.2.1 pj) 4) (va_cwS 2 C.2.2.2.2.1 gL_isSo_L_part rfl rfl rfl kdN_L_part ⟨Nat.le_of_ble_eq_true rfl, Nat.le_of_ble_eq_true rfl⟩) rfl rfl (Nat.le_of_ble_eq_true rfl) ⟨Nat.le_of_ble_eq_true rfl, Nat.le_of_ble_eq_true rfl⟩ dL_isSo_70 ?_
      refine gx_bipush (v := 24) C dL_isSo_73 (by decide) ?_
      refine gx_icmp_ne (tgt := 85) C dL_isSo_75 (by decide) (fun c_75 => ?_) (fun c_75 => ?_)
      · skip
        refine gx_iconst (v := 0) C dL_isSo_85 (by decide) ?_
        exact jj_65 _ ((if_neg c_75).trans (rfl)).symm
      · skip
        refine gx_iconst (v := 1) C dL_isSo_78 (by decide) ?_
        refine gx_iload (q := 9) C dL_isSo_79 rfl ?_
        refine gx_ishl C dL_isSo_81 ?_
        refine gx_goto (tgt := 86) C dL_isSo_82 (by decide) ?_
        exact jj_65 _ ((if_pos c_75).trans (rfl)).symm
    refine gx_aload_n (q := 2) C dL_isSo_39 rfl ?_
    refine gx_iload (q := 9) C dL_isSo_40 rfl ?_
    refine gx_laldN C (lw_mb hI) (lw_eb hI) rfl (by omega) (by decide) dL_isSo_42 ?_
    refine gx_iconst (v := 4) C dL_isSo_43 (by decide) ?_
    refine gx_callRS C (k_L_part l (z.2.1 pj) 4) (va_cwS 2 C.2.2.2.2.1 gL_isSo_L_part rfl rfl rfl kdN_L_part ⟨Nat.le_of_ble_eq_true rfl, Nat.le_of_ble_eq_true rfl⟩) rfl rfl (Nat.le_of_ble_eq_true rfl) ⟨Nat.le_of_ble_eq_true rfl, Nat.le_of_ble_eq_true rfl⟩ dL_isSo_44 ?_
    refine gx_bipush (v := 24) C dL_isSo_47 (by decide) ?_
    refine gx_icmp_ge (tgt := 59) C dL_isSo_49 (by decide) (fun c_49 => ?_) (fun c_49 => ?_)
    · skip
      refine gx_iconst (v := 0) C dL_isSo_59 (by decide) ?_
      exact jj_39 _ ((if_pos c_49).trans (rfl)).symm
    · skip
      refine gx_iconst (v := 1) C dL_isSo_52 (by decide) ?_
      refine gx_iload (q := 9) C dL_isSo_53 rfl ?_
      refine gx_ishl C dL_isSo_55 ?_
      refine gx_goto (tgt := 60) C dL_isSo_56 (by decide) ?_
      exact jj_39 _ ((if_neg c_49).trans (rfl)).symm
    exact absurd c_32 (by decide)
