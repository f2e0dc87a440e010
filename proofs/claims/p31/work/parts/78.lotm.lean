/-! settings and nights, walked -/
theorem kdN_L_others : yL_others.cls ≠ "java/lang/invoke/MethodHandle" ∧ yL_others.cls ≠ "java/lang/invoke/VarHandle" ∧ (parseMethodDescriptor yL_others.desc).map (fun d => d.parameters.length) = some 7 := by decide +kernel
theorem kdV_L_others : yL_others.cls = RL ∧ yL_others.cls ≠ "java/lang/invoke/MethodHandle" ∧ yL_others.cls ≠ "java/lang/invoke/VarHandle" ∧ (parseMethodDescriptor yL_others.desc).map (fun d => d.parameters.length) = some 7 := ⟨rfl, kdN_L_others⟩
abbrev rmL_others : Room := { frames := 6, cells := 0, slots := 0, locals := 147 }
set_option maxHeartbeats 4000000 in
set_option maxRecDepth 100000 in
theorem k_L_others (l : Launch) {k : gK} {f : Nat → va_E} {L1 L2 : List Nat} {AA : Nat → Nat} {q : PS} {B : Nat → Nat} {z : ZS} (hL : (L1 ++ L2).Nodup) (hI : isLW k L1 L2 f AA q B z) {J n np nt x0 : Nat} {zr : Nat → Int32} (h : IV J q zr z) (hz : LZn J n np nt x0 zr z) (hJ : J ≤ 100) (xv : Int32) (yv : Int32)  : kM l k (L1 ++ L2) f yL_others wsL_others rmL_others [.ref (AA 0), .int xv, .int yv, .ref (B 0), .ref (B 1), .ref (B 2), .ref (B 3)] (fun v f2 => v = some (.int 1) ∧ ∃ q2 z2 zr2, isLW k L1 L2 f2 AA q2 B z2 ∧ IV (J + 1) q2 zr2 z2) := by
  refine kM_of (cc := cL_others) (maxL := 11) (ret := (some .boolean)) (by decide) rfl (Nat.le_of_ble_eq_true rfl) ?_
  intro p e s m args below meth c C hr
  have hD : gD (fun q => q ∈ L1 ++ L2) (L1 ++ L2) := ⟨hL, fun _ h => h⟩
  have hL1 : L1.Nodup := (List.nodup_append.mp hL).1
  have hn : z.1 7 = nI n := (hz.2.2.1 7 (by decide)).trans hz.2.1.1
  have hn2 : n ≤ 20 := hz.1.1
  have hnp : z.1 6 = nI np := (hz.2.2.1 6 (by decide)).trans hz.2.1.2.1
  have hnp2 : np ≤ 10 := hz.1.2.1
  have hst := lo_lt yv (n := 4) (by decide)
  have hnn := lo_lt yv (n := 3) (by decide)
  refine gx_lv [(0, _), (1, _), (2, _), (3, _), (4, _), (5, _), (6, _)] [0, 1, 2, 3, 4, 5, 6] rfl ?_
  refine gx_iload_n (q := 1) C dL_others_0 rfl ?_
  refine gx_iconst (v := 4) C dL_others_1 (by decide) ?_
  refine gx_callRS C (k_L_low l xv 4 (by first | decide | omega) (by first | decide | omega)) (va_cwS 2 C.2.2.2.2.1 gL_others_L_low rfl rfl rfl kdN_L_low ⟨Nat.le_of_ble_eq_true rfl, Nat.le_of_ble_eq_true rfl⟩) rfl rfl (Nat.le_of_ble_eq_true rfl) ⟨Nat.le_of_ble_eq_true rfl, Nat.le_of_ble_eq_true rfl⟩ dL_others_2 ?_
  refine gx_if_ne (tgt := 151) C dL_others_5 (by decide) (fun c_5 => ?_) (fun c_5 => ?_)
  · skip
    refine gx_iconst (v := 1) C dL_others_151 (by decide) ?_
    refine gx_iload_n (q := 2) C dL_others_152 rfl ?_
    refine gx_iconst (v := 3) C dL_others_153 (by decide) ?_
    refine gx_callRS C (k_L_low l yv 3 (by first | decide | omega) (by first | decide | omega)) (va_cwS 2 C.2.2.2.2.1 gL_others_L_low rfl rfl rfl kdN_L_low ⟨Nat.le_of_ble_eq_true rfl, Nat.le_of_ble_eq_true rfl⟩) rfl rfl (Nat.le_of_ble_eq_true rfl) ⟨Nat.le_of_ble_eq_true rfl, Nat.le_of_ble_eq_true rfl⟩ dL_others_154 ?_
    refine gx_iadd C dL_others_157 ?_
    refine gx_top (nI (1 + lo yv 3)) (nAdd (nLit 1) rfl) ?_
    refine gx_istore C [(7, _), (0, _), (1, _), (2, _), (3, _), (4, _), (5, _), (6, _)] dL_others_158 (by decide) rfl ?_
    refine gx_iconst (v := 0) C dL_others_160 (by decide) ?_
    refine gx_istore C [(8, _), (7, _), (0, _), (1, _), (2, _), (3, _), (4, _), (5, _), (6, _)] dL_others_161 (by decide) rfl ?_
    refine gx_loop (σ := Nat × ZS × (Nat → va_E)) (fun σ => σ.2.2) (fun σ => [(0, .ref (AA 0)), (3, .ref (B 0)), (4, .ref (B 1)), (5, .ref (B 2)), (6, .ref (B 3)), (7, .int (nI (1 + lo yv 3))), (8, .int (nI σ.1))]) (fun σ => σ.1 ≤ (1 + lo yv 3) ∧ isLW k L1 L2 σ.2.2 AA q B σ.2.1 ∧ LNi J n np nt x0 zr σ.1 σ.2.1) (fun σ => (1 + lo yv 3) - σ.1) (0, z, _) [2, 5, 6, 7, 8, 1, 0] rfl rfl ?_ ?_
    · exact ⟨Nat.zero_le _, hI, LNi_0 hz⟩
    intro ⟨m0, zm, fm⟩ ⟨hm0, hI, hL⟩ ihn
    try dsimp only at hm0 hI hL ihn ⊢
    have hnm : zm.1 7 = nI n := (hL.2.2.1 7 (by decide)).trans hL.2.1.1
    refine gx_iload (q := 6) C dL_others_163 rfl ?_
    refine gx_iload (q := 5) C dL_others_165 rfl ?_
    refine gx_icmp_ge (tgt := 361) C dL_others_167 (by decide) (fun c_167 => ?_) (fun c_167 => ?_)
    · skip
      have hb_m0 := (nI_leI (by omega) (by omega)).mp c_167
      have hmn : (1 + lo yv 3) = m0 := by omega
      rw [← hmn] at hL
      refine gx_aload_n (q := 0) C dL_others_361 rfl ?_
      refine gx_iload (q := 5) C dL_others_362 rfl ?_
      refine gx_callF C hD hI (k_X6_pass l hL1 hI.1 h.1 (IV_ok h) _) (cwV 1 C.2.2.2.2.1 gL_others_X6_pass rfl rfl rfl kdV_X6_pass ⟨Nat.le_of_ble_eq_true rfl, Nat.le_of_ble_eq_true rfl⟩) rfl rfl (Nat.le_of_ble_eq_true rfl) ⟨Nat.le_of_ble_eq_true rfl, Nat.le_of_ble_eq_true rfl⟩ dL_others_364 (fun f_1 hI_1 => ?_)
      obtain ⟨hv_364, zr_364, hJ_364⟩ := pass_do h hz hJ (by omega) (by omega) hL
      refine gx_aload_n (q := 1) C dL_others_367 rfl ?_
      refine gx_iconst (v := 0) C dL_others_368 (by decide) ?_
      refine gx_ialdN C (lw_mg hI_1) (lw_eg hI_1) (nLit 0) (by omega) (by decide) dL_others_369 ?_
      refine gx_icmp_ne (tgt := 398) C dL_others_370 (by decide) (fun c_370 => ?_) (fun c_370 => ?_)
      · skip
        exact absurd hv_364 c_370
      · skip
        refine gx_aload_n (q := 0) C dL_others_373 rfl ?_
        refine gx_iconst (v := 0) C dL_others_374 (by decide) ?_
        refine gx_callF C hD hI_1 (k_X6_pass l hL1 hI_1.1 hJ_364.1 (IV_ok hJ_364) _) (cwV 1 C.2.2.2.2.1 gL_others_X6_pass rfl rfl rfl kdV_X6_pass ⟨Nat.le_of_ble_eq_true rfl, Nat.le_of_ble_eq_true rfl⟩) rfl rfl (Nat.le_of_ble_eq_true rfl) ⟨Nat.le_of_ble_eq_true rfl, Nat.le_of_ble_eq_true rfl⟩ dL_others_375 (fun f_2 hI_2 => ?_)
        obtain ⟨hv_375, hJ_375⟩ := pass_out (u := 0) hJ_364 (Or.inl (by decide)) (by decide)
        refine gx_top (-2) hv_375 ?_
        refine gx_bipush (v := (-2)) C dL_others_378 (by decide) ?_
        refine gx_icmp_ne (tgt := 398) C dL_others_380 (by decide) (fun c_380 => ?_) (fun c_380 => ?_)
        exact absurd (by decide) c_380
        refine gx_aload_n (q := 0) C dL_others_383 rfl ?_
        refine gx_bipush (v := 21) C dL_others_384 (by decide) ?_
        refine gx_callF C hD hI_2 (k_X6_pass l hL1 hI_2.1 hJ_375.1 (IV_ok hJ_375) _) (cwV 1 C.2.2.2.2.1 gL_others_X6_pass rfl rfl rfl kdV_X6_pass ⟨Nat.le_of_ble_eq_true rfl, Nat.le_of_ble_eq_true rfl⟩) rfl rfl (Nat.le_of_ble_eq_true rfl) ⟨Nat.le_of_ble_eq_true rfl, Nat.le_of_ble_eq_true rfl⟩ dL_others_386 (fun f_3 hI_3 => ?_)
        obtain ⟨hv_386, hJ_386⟩ := pass_out (u := 21) hJ_375 (Or.inr (by decide)) (by decide)
        refine gx_top (-2) hv_386 ?_
        refine gx_bipush (v := (-2)) C dL_others_389 (by decide) ?_
        refine gx_icmp_ne (tgt := 398) C dL_others_391 (by decide) (fun c_391 => ?_) (fun c_391 => ?_)
        exact absurd (by decide) c_391
        refine gx_iconst (v := 1) C dL_others_394 (by decide) ?_
        refine gx_goto (tgt := 399) C dL_others_395 (by decide) ?_
        exact gx_zretL C hr dL_others_399 rfl ⟨rfl, _, _, _, hI_3, hJ_386⟩
    · skip
      have hlt_m0 : m0 < (1 + lo yv 3) := Nat.lt_of_not_le (fun z => c_167 ((nI_leI (by omega) (by omega)).mpr z))
      refine gx_iconst (v := 0) C dL_others_170 (by decide) ?_
      refine gx_istore C [(9, _), (0, _), (3, _), (4, _), (5, _), (6, _), (7, _), (8, _)] dL_others_171 (by decide) rfl ?_
      refine gx_loop (σ := Nat × (Nat → Int64) × (Nat → va_E)) (fun σ => σ.2.2) (fun σ => [(0, .ref (AA 0)), (3, .ref (B 0)), (4, .ref (B 1)), (5, .ref (B 2)), (6, .ref (B 3)), (7, .int (nI (1 + lo yv 3))), (8, .int (nI m0)), (9, .int (nI σ.1))]) (fun σ => σ.1 ≤ n ∧ isLW k L1 L2 σ.2.2 AA q B (zm.1, σ.2.1, zm.2.2) ∧ LDi (J + 1) n np (nt + m0) x0 ((zPassN (mz zr) m0).1 0) zm σ.1 σ.2.1) (fun σ => n - σ.1) (0, zm.2.1, _) [1, 2, 3, 4, 5, 6, 7, 0] rfl rfl ?_ ?_
      · exact ⟨Nat.zero_le _, hI, LDi_0 hL⟩
      intro ⟨pj, bi, fp⟩ ⟨hpj, hI, hD1⟩ ihp
      try dsimp only at hpj hI hD1 ihp ⊢
      refine gx_iload (q := 7) C dL_others_173 rfl ?_
      refine gx_aload_n (q := 1) C dL_others_175 rfl ?_
      refine gx_bipush (v := 7) C dL_others_176 (by decide) ?_
      refine gx_ialdN C (lw_mg hI) (lw_eg hI) (nLit 7) (by omega) (by decide) dL_others_178 ?_
      refine gx_top (nI n) hnm ?_
      refine gx_icmp_ge (tgt := 283) C dL_others_179 (by decide) (fun c_179 => ?_) (fun c_179 => ?_)
      · skip
        have hb_pj := (nI_leI (by omega) (by omega)).mp c_179
        have hin : n = pj := by omega
        subst hin
        refine gx_iconst (v := 0) C dL_others_283 (by decide) ?_
        refine gx_istore C [(9, _), (0, _), (3, _), (4, _), (5, _), (6, _), (7, _), (8, _)] dL_others_284 (by decide) rfl ?_
        refine gx_loop (σ := Nat × (Nat → va_E)) (fun σ => σ.2) (fun σ => [(0, .ref (AA 0)), (3, .ref (B 0)), (4, .ref (B 1)), (5, .ref (B 2)), (6, .ref (B 3)), (7, .int (nI (1 + lo yv 3))), (8, .int (nI m0)), (9, .int (nI σ.1))]) (fun σ => σ.1 ≤ 30 ∧ isLW k L1 L2 σ.2 AA q B (zm.1, bi, shK zm.2.2.1 σ.1, zm.2.2.2)) (fun σ => 30 - σ.1) (0, _) [1, 2, 3, 4, 5, 6, 7, 0] rfl rfl ?_ ?_
        · exact ⟨Nat.zero_le _, by rw [shK_0]; exact hI⟩
        intro ⟨kj, fk⟩ ⟨hkj, hI⟩ ihk
        try dsimp only at hkj hI ihk ⊢
        refine gx_iload (q := 7) C dL_others_286 rfl ?_
        refine gx_bipush (v := 30) C dL_others_288 (by decide) ?_
        refine gx_icmp_ge (tgt := 324) C dL_others_290 (by decide) (fun c_290 => ?_) (fun c_290 => ?_)
        · skip
          have hb_kj := (nI_leI (a := 30) (b := kj) (by decide) (by omega)).mp c_290
          have hin : kj = 30 := by omega
          subst hin
          refine gx_iconst (v := 0) C dL_others_324 (by decide) ?_
          refine gx_istore C [(9, _), (0, _), (3, _), (4, _), (5, _), (6, _), (7, _), (8, _)] dL_others_325 (by decide) rfl ?_
          refine gx_loop (σ := Nat × (Nat → va_E)) (fun σ => σ.2) (fun σ => [(0, .ref (AA 0)), (3, .ref (B 0)), (4, .ref (B 1)), (5, .ref (B 2)), (6, .ref (B 3)), (7, .int (nI (1 + lo yv 3))), (8, .int (nI m0)), (9, .int (nI σ.1))]) (fun σ => σ.1 ≤ 10 ∧ isLW k L1 L2 σ.2 AA q B (zm.1, bi, shK zm.2.2.1 30, clT zm.2.2.2 σ.1)) (fun σ => 10 - σ.1) (0, _) [1, 2, 3, 4, 5, 6, 7, 0] rfl rfl ?_ ?_
          · exact ⟨Nat.zero_le _, by rw [clT_0]; exact hI⟩
          intro ⟨tj, ft⟩ ⟨htj, hI⟩ iht
          try dsimp only at htj hI iht ⊢
          refine gx_iload (q := 7) C dL_others_327 rfl ?_
          refine gx_bipush (v := 10) C dL_others_329 (by decide) ?_
          refine gx_icmp_ge (tgt := 348) C dL_others_331 (by decide) (fun c_331 => ?_) (fun c_331 => ?_)
          · skip
            have hb_tj := (nI_leI (a := 10) (b := tj) (by decide) (by omega)).mp c_331
            have hin : tj = 10 := by omega
            subst hin
            refine gx_aload_n (q := 1) C dL_others_348 rfl ?_
            refine gx_iconst (v := 0) C dL_others_349 (by decide) ?_
            refine gx_dup2 C dL_others_350 rfl rfl ?_
            refine gx_ialdN C (lw_mg hI) (lw_eg hI) (nLit 0) (by omega) (by decide) dL_others_351 ?_
            refine gx_iconst (v := 1) C dL_others_352 (by decide) ?_
            refine gx_iadd C dL_others_353 ?_
            refine gx_iastN C hD (lw_mg hI) (lw_eg hI) (nLit 0) (by omega) (by decide) dL_others_354 ?_
            refine gx_Lg hI (fun f_4 hI_4 => ?_)
            refine gx_iinc C (q := 6) (v := nI (m0 + 1)) [(8, _), (0, _), (3, _), (4, _), (5, _), (6, _), (7, _), (9, _)] dL_others_355 rfl (nI_inc m0) (by decide) rfl ?_
            refine gx_goto (tgt := 163) C dL_others_358 (by decide) ?_
            exact gx_back [1, 2, 3, 4, 5, 6, 0] (ihn (m0 + 1, (upd zm.1 0 (zm.1 0 + 1), bi, shK zm.2.2.1 30, clT zm.2.2.2 10), _) ⟨by show m0 + 1 ≤ (1 + lo yv 3); omega, hI_4, LNi_s h hz (by omega) hL hD1⟩ (by show (1 + lo yv 3) - (m0 + 1) < (1 + lo yv 3) - m0; omega)) rfl rfl
          · skip
            have hlt_tj : tj < 10 := Nat.lt_of_not_le (fun z => c_331 ((nI_leI (a := 10) (b := tj) (by decide) (by omega)).mpr z))
            refine gx_aload (q := 4) C dL_others_334 rfl ?_
            refine gx_iconst (v := 2) C dL_others_336 (by decide) ?_
            refine gx_iload (q := 7) C dL_others_337 rfl ?_
            refine gx_imul C dL_others_339 ?_
            refine gx_iconst (v := 0) C dL_others_340 (by decide) ?_
            refine gx_iastN C hD (lw_mt hI) (lw_et hI) (nMul (nLit 2) rfl) (by omega) (by decide) dL_others_341 ?_
            refine gx_Lt hI (fun f_5 hI_5 => ?_)
            refine gx_iinc C (q := 7) (v := nI (tj + 1)) [(9, _), (0, _), (3, _), (4, _), (5, _), (6, _), (7, _), (8, _)] dL_others_342 rfl (nI_inc tj) (by decide) rfl ?_
            refine gx_goto (tgt := 327) C dL_others_345 (by decide) ?_
            exact gx_back [1, 2, 3, 4, 5, 6, 7, 0] (iht (tj + 1, _) ⟨by show tj + 1 ≤ 10; omega, by show isLW k L1 L2 _ AA q B (zm.1, bi, shK zm.2.2.1 30, clT zm.2.2.2 (tj + 1)); rw [← clT_s]; exact hI_5⟩ (by show 10 - (tj + 1) < 10 - tj; omega)) rfl rfl
        · skip
          have hlt_kj : kj < 30 := Nat.lt_of_not_le (fun z => c_290 ((nI_leI (a := 30) (b := kj) (by decide) (by omega)).mpr z))
          refine gx_aload (q := 3) C dL_others_293 rfl ?_
          refine gx_iload (q := 7) C dL_others_295 rfl ?_
          refine gx_join (pc2 := 317) ((if 5 ≤ (nI (kj % 6)) then 0 else (((zm.1, bi, shK zm.2.2.1 kj, zm.2.2.2) : ZS).2.2.1 (kj + 1))) : Int32) ?_ (fun jj_297 => ?_)
          · skip
            refine gx_iastN C hD (lw_mk hI) (lw_ek hI) rfl (by omega) (by decide) dL_others_317 ?_
            refine gx_Lk hI (fun f_6 hI_6 => ?_)
            refine gx_iinc C (q := 7) (v := nI (kj + 1)) [(9, _), (0, _), (3, _), (4, _), (5, _), (6, _), (7, _), (8, _)] dL_others_318 rfl (nI_inc kj) (by decide) rfl ?_
            refine gx_goto (tgt := 286) C dL_others_321 (by decide) ?_
            exact gx_back [1, 2, 3, 4, 5, 6, 7, 0] (ihk (kj + 1, _) ⟨by show kj + 1 ≤ 30; omega, by show isLW k L1 L2 _ AA q B (zm.1, bi, shK zm.2.2.1 (kj + 1), zm.2.2.2); rw [← shK_s]; exact hI_6⟩ (by show 30 - (kj + 1) < 30 - kj; omega)) rfl rfl
          refine gx_iload (q := 7) C dL_others_297 rfl ?_
          refine gx_bipush (v := 6) C dL_others_299 (by decide) ?_
          refine gx_irem C (by decide) dL_others_301 ?_
          refine gx_top (nI (kj % 6)) (by rw [show (6 : Int32) = nI 6 from rfl]; exact pk_rem (by omega) (by decide) (by decide)) ?_
          refine gx_iconst (v := 5) C dL_others_302 (by decide) ?_
          refine gx_icmp_ge (tgt := 316) C dL_others_303 (by decide) (fun c_303 => ?_) (fun c_303 => ?_)
          · skip
            refine gx_iconst (v := 0) C dL_others_316 (by decide) ?_
            exact jj_297 _ ((if_pos c_303).trans (rfl)).symm
          · skip
            refine gx_aload (q := 3) C dL_others_306 rfl ?_
            refine gx_iload (q := 7) C dL_others_308 rfl ?_
            refine gx_iconst (v := 1) C dL_others_310 (by decide) ?_
            refine gx_iadd C dL_others_311 ?_
            refine gx_ialdN C (lw_mk hI) (lw_ek hI) (nAdd rfl (nLit 1)) (by omega) (by decide) dL_others_312 ?_
            refine gx_goto (tgt := 317) C dL_others_313 (by decide) ?_
            exact jj_297 _ ((if_neg c_303).trans (rfl)).symm
      · skip
        have hlt_pj : pj < n := Nat.lt_of_not_le (fun z => c_179 ((nI_leI (by omega) (by omega)).mpr z))
        refine gx_join (pc2 := 201) ((if 8 ≤ (pt (bi pj) 4) then 1 else 2) : Int32) ?_ (fun jj_182 => ?_)
        · skip
          refine gx_istore C [(10, _), (0, _), (3, _), (4, _), (5, _), (6, _), (7, _), (8, _), (9, _)] dL_others_201 (by decide) rfl ?_
          refine gx_aload (q := 3) C dL_others_203 rfl ?_
          refine gx_iload (q := 8) C dL_others_205 rfl ?_
          refine gx_laldN C (lw_mb hI) (lw_eb hI) rfl (by omega) (by decide) dL_others_207 ?_
          refine gx_iconst (v := 3) C dL_others_208 (by decide) ?_
          refine gx_callRS C (k_L_part l (bi pj) 3) (va_cwS 2 C.2.2.2.2.1 gL_others_L_part rfl rfl rfl kdN_L_part ⟨Nat.le_of_ble_eq_true rfl, Nat.le_of_ble_eq_true rfl⟩) rfl rfl (Nat.le_of_ble_eq_true rfl) ⟨Nat.le_of_ble_eq_true rfl, Nat.le_of_ble_eq_true rfl⟩ dL_others_209 ?_
          refine gx_if_ne (tgt := 277) C dL_others_212 (by decide) (fun c_212 => ?_) (fun c_212 => ?_)
          · skip
            refine gx_iinc C (q := 8) (v := nI (pj + 1)) [(9, _), (10, _), (0, _), (3, _), (4, _), (5, _), (6, _), (7, _), (8, _)] dL_others_277 rfl (nI_inc pj) (by decide) rfl ?_
            refine gx_goto (tgt := 173) C dL_others_280 (by decide) ?_
            have hb1 : lDry1 bi pj = _ := if_neg (fun e => c_212 e.1)
            exact gx_back [2, 3, 4, 5, 6, 7, 8, 0] (ihp (pj + 1, lDry1 bi pj, _) ⟨by show pj + 1 ≤ n; omega, by rw [hb1]; exact hI, LDi_s hL (fun p hp => dry_b h hz hJ (by omega) hp) hlt_pj hD1⟩ (by show n - (pj + 1) < n - pj; omega)) rfl rfl
          · skip
            refine gx_aload (q := 3) C dL_others_215 rfl ?_
            refine gx_iload (q := 8) C dL_others_217 rfl ?_
            refine gx_laldN C (lw_mb hI) (lw_eb hI) rfl (by omega) (by decide) dL_others_219 ?_
            refine gx_iconst (v := 4) C dL_others_220 (by decide) ?_
            refine gx_callRS C (k_L_part l (bi pj) 4) (va_cwS 2 C.2.2.2.2.1 gL_others_L_part rfl rfl rfl kdN_L_part ⟨Nat.le_of_ble_eq_true rfl, Nat.le_of_ble_eq_true rfl⟩) rfl rfl (Nat.le_of_ble_eq_true rfl) ⟨Nat.le_of_ble_eq_true rfl, Nat.le_of_ble_eq_true rfl⟩ dL_others_221 ?_
            refine gx_bipush (v := 24) C dL_others_224 (by decide) ?_
            refine gx_icmp_ge (tgt := 277) C dL_others_226 (by decide) (fun c_226 => ?_) (fun c_226 => ?_)
            · skip
              refine gx_iinc C (q := 8) (v := nI (pj + 1)) [(9, _), (10, _), (0, _), (3, _), (4, _), (5, _), (6, _), (7, _), (8, _)] dL_others_277 rfl (nI_inc pj) (by decide) rfl ?_
              refine gx_goto (tgt := 173) C dL_others_280 (by decide) ?_
              have hb1 : lDry1 bi pj = _ := if_neg (fun e => e.2 c_226)
              exact gx_back [2, 3, 4, 5, 6, 7, 8, 0] (ihp (pj + 1, lDry1 bi pj, _) ⟨by show pj + 1 ≤ n; omega, by rw [hb1]; exact hI, LDi_s hL (fun p hp => dry_b h hz hJ (by omega) hp) hlt_pj hD1⟩ (by show n - (pj + 1) < n - pj; omega)) rfl rfl
            · skip
              refine gx_aload (q := 3) C dL_others_229 rfl ?_
              refine gx_iload (q := 8) C dL_others_231 rfl ?_
              refine gx_aload (q := 3) C dL_others_233 rfl ?_
              refine gx_iload (q := 8) C dL_others_235 rfl ?_
              refine gx_laldN C (lw_mb hI) (lw_eb hI) rfl (by omega) (by decide) dL_others_237 ?_
              refine gx_iconst (v := 5) C dL_others_238 (by decide) ?_
              refine gx_join (pc2 := 273) ((if ((pt (bi pj) 5) + (if 8 ≤ (pt (bi pj) 4) then 1 else 2)) ≤ 60 then ((pt (bi pj) 5) + (if 8 ≤ (pt (bi pj) 4) then 1 else 2)) else 60) : Int32) ?_ (fun jj_239 => ?_)
              · skip
                refine gx_callRS C (k_L_with l (bi pj) 5 (if ((pt (bi pj) 5) + (if 8 ≤ (pt (bi pj) 4) then 1 else 2)) ≤ 60 then ((pt (bi pj) 5) + (if 8 ≤ (pt (bi pj) 4) then 1 else 2)) else 60)) (va_cwS 3 C.2.2.2.2.1 gL_others_L_with rfl rfl rfl kdN_L_with ⟨Nat.le_of_ble_eq_true rfl, Nat.le_of_ble_eq_true rfl⟩) rfl rfl (Nat.le_of_ble_eq_true rfl) ⟨Nat.le_of_ble_eq_true rfl, Nat.le_of_ble_eq_true rfl⟩ dL_others_273 ?_
                refine gx_lastN C hD (lw_mb hI) (lw_eb hI) rfl (by omega) (by decide) dL_others_276 ?_
                refine gx_Lb hI (fun f_7 hI_7 => ?_)
                refine gx_iinc C (q := 8) (v := nI (pj + 1)) [(9, _), (10, _), (0, _), (3, _), (4, _), (5, _), (6, _), (7, _), (8, _)] dL_others_277 rfl (nI_inc pj) (by decide) rfl ?_
                refine gx_goto (tgt := 173) C dL_others_280 (by decide) ?_
                have hb1 : lDry1 bi pj = _ := if_pos ⟨c_212, c_226⟩
                exact gx_back [2, 3, 4, 5, 6, 7, 8, 0] (ihp (pj + 1, lDry1 bi pj, _) ⟨by show pj + 1 ≤ n; omega, by rw [hb1]; exact hI_7, LDi_s hL (fun p hp => dry_b h hz hJ (by omega) hp) hlt_pj hD1⟩ (by show n - (pj + 1) < n - pj; omega)) rfl rfl
              refine gx_aload (q := 3) C dL_others_239 rfl ?_
              refine gx_iload (q := 8) C dL_others_241 rfl ?_
              refine gx_laldN C (lw_mb hI) (lw_eb hI) rfl (by omega) (by decide) dL_others_243 ?_
              refine gx_iconst (v := 5) C dL_others_244 (by decide) ?_
              refine gx_callRS C (k_L_part l (bi pj) 5) (va_cwS 2 C.2.2.2.2.1 gL_others_L_part rfl rfl rfl kdN_L_part ⟨Nat.le_of_ble_eq_true rfl, Nat.le_of_ble_eq_true rfl⟩) rfl rfl (Nat.le_of_ble_eq_true rfl) ⟨Nat.le_of_ble_eq_true rfl, Nat.le_of_ble_eq_true rfl⟩ dL_others_245 ?_
              refine gx_iload (q := 0) C dL_others_248 rfl ?_
              refine gx_iadd C dL_others_250 ?_
              refine gx_bipush (v := 60) C dL_others_251 (by decide) ?_
              refine gx_icmp_le (tgt := 261) C dL_others_253 (by decide) (fun c_253 => ?_) (fun c_253 => ?_)
              · skip
                refine gx_aload (q := 3) C dL_others_261 rfl ?_
                refine gx_iload (q := 8) C dL_others_263 rfl ?_
                refine gx_laldN C (lw_mb hI) (lw_eb hI) rfl (by omega) (by decide) dL_others_265 ?_
                refine gx_iconst (v := 5) C dL_others_266 (by decide) ?_
                refine gx_callRS C (k_L_part l (bi pj) 5) (va_cwS 2 C.2.2.2.2.1 gL_others_L_part rfl rfl rfl kdN_L_part ⟨Nat.le_of_ble_eq_true rfl, Nat.le_of_ble_eq_true rfl⟩) rfl rfl (Nat.le_of_ble_eq_true rfl) ⟨Nat.le_of_ble_eq_true rfl, Nat.le_of_ble_eq_true rfl⟩ dL_others_267 ?_
                refine gx_iload (q := 0) C dL_others_270 rfl ?_
                refine gx_iadd C dL_others_272 ?_
                exact jj_239 _ ((if_pos c_253).trans (rfl)).symm
              · skip
                refine gx_bipush (v := 60) C dL_others_256 (by decide) ?_
                refine gx_goto (tgt := 273) C dL_others_258 (by decide) ?_
                exact jj_239 _ ((if_neg c_253).trans (rfl)).symm
        refine gx_aload (q := 2) C dL_others_182 rfl ?_
        refine gx_iload (q := 7) C dL_others_184 rfl ?_
        refine gx_laldN C (lw_mb hI) (lw_eb hI) rfl (by omega) (by decide) dL_others_186 ?_
        refine gx_iconst (v := 4) C dL_others_187 (by decide) ?_
        refine gx_callRS C (k_L_part l (bi pj) 4) (va_cwS 2 C.2.2.2.2.1 gL_others_L_part rfl rfl rfl kdN_L_part ⟨Nat.le_of_ble_eq_true rfl, Nat.le_of_ble_eq_true rfl⟩) rfl rfl (Nat.le_of_ble_eq_true rfl) ⟨Nat.le_of_ble_eq_true rfl, Nat.le_of_ble_eq_true rfl⟩ dL_others_188 ?_
        refine gx_bipush (v := 8) C dL_others_191 (by decide) ?_
        refine gx_icmp_ge (tgt := 200) C dL_others_193 (by decide) (fun c_193 => ?_) (fun c_193 => ?_)
        · skip
          refine gx_iconst (v := 1) C dL_others_200 (by decide) ?_
          exact jj_182 _ ((if_pos c_193).trans (rfl)).symm
        · skip
          refine gx_iconst (v := 2) C dL_others_196 (by decide) ?_
          refine gx_goto (tgt := 201) C dL_others_197 (by decide) ?_
          exact jj_182 _ ((if_neg c_193).trans (rfl)).symm
  · skip
    refine gx_iload_n (q := 2) C dL_others_8 rfl ?_
    refine gx_iconst (v := 4) C dL_others_9 (by decide) ?_
    refine gx_callRS C (k_L_low l yv 4 (by first | decide | omega) (by first | decide | omega)) (va_cwS 2 C.2.2.2.2.1 gL_others_L_low rfl rfl rfl kdN_L_low ⟨Nat.le_of_ble_eq_true rfl, Nat.le_of_ble_eq_true rfl⟩) rfl rfl (Nat.le_of_ble_eq_true rfl) ⟨Nat.le_of_ble_eq_true rfl, Nat.le_of_ble_eq_true rfl⟩ dL_others_10 ?_
    refine gx_istore C [(7, _), (0, _), (1, _), (2, _), (3, _), (4, _), (5, _), (6, _)] dL_others_13 (by decide) rfl ?_
    refine gx_aload_n (q := 4) C dL_others_15 rfl ?_
    refine gx_iconst (v := 2) C dL_others_16 (by decide) ?_
    refine gx_iload (q := 0) C dL_others_17 rfl ?_
    refine gx_iadd C dL_others_19 ?_
    refine gx_ialdN C (lw_mg hI) (lw_eg hI) (nAdd (nLit 2) rfl) (by omega) (by decide) dL_others_20 ?_
    refine gx_istore C [(8, _), (7, _), (0, _), (1, _), (2, _), (3, _), (4, _), (5, _), (6, _)] dL_others_21 (by decide) rfl ?_
    refine gx_aload_n (q := 5) C dL_others_23 rfl ?_
    refine gx_iconst (v := 2) C dL_others_24 (by decide) ?_
    refine gx_iload (q := 1) C dL_others_25 rfl ?_
    refine gx_iadd C dL_others_27 ?_
    refine gx_join (pc2 := 92) ((if (nI (lo yv 4)) = 0 then ((1 : Int32) + (nI (lo (yv >>> (2 &&& 31)) 3))) else (if (nI (lo yv 4)) = 1 then ((3 : Int32) + (nI (lo (yv >>> (2 &&& 31)) 22))) else (if (nI (lo yv 4)) = 2 then ((100 : Int32) + (nI (lo (yv >>> (2 &&& 31)) 41))) else (nI (lo (yv >>> (2 &&& 31)) 21))))) : Int32) ?_ (fun jj_28 => ?_)
    · skip
      refine gx_top (nI (sV (lo yv 4) (yv >>> (2 &&& 31)))) (sV_e hst _) ?_
      refine gx_iastN C hD (lw_mg hI) (lw_eg hI) (nAdd (nLit 2) rfl) (by omega) (by decide) dL_others_92 ?_
      refine gx_Lg hI (fun f_8 hI_8 => ?_)
      refine gx_aload_n (q := 2) C dL_others_93 rfl ?_
      refine gx_iload (q := 1) C dL_others_94 rfl ?_
      refine gx_aload_n (q := 5) C dL_others_96 rfl ?_
      refine gx_iconst (v := 2) C dL_others_97 (by decide) ?_
      refine gx_iload (q := 1) C dL_others_98 rfl ?_
      refine gx_iadd C dL_others_100 ?_
      refine gx_ialdN C (lw_mg hI_8) (lw_eg hI_8) (nAdd (nLit 2) rfl) (by omega) (by decide) dL_others_101 ?_
      refine gx_top (nI (sV (lo yv 4) (yv >>> (2 &&& 31)))) (upd_s z.1 (2 + lo yv 4) _) ?_
      refine gx_callF C hD hI_8 (k_X6_set l hL1 hI_8.1 h.1 (IV_ok h) _ _) (cwV 2 C.2.2.2.2.1 gL_others_X6_set rfl rfl rfl kdV_X6_set ⟨Nat.le_of_ble_eq_true rfl, Nat.le_of_ble_eq_true rfl⟩) rfl rfl (Nat.le_of_ble_eq_true rfl) ⟨Nat.le_of_ble_eq_true rfl, Nat.le_of_ble_eq_true rfl⟩ dL_others_102 (fun f_9 hI_9 => ?_)
      obtain ⟨hv_102, zr_102, hJ_102⟩ := set_do h hz hst (yv >>> (2 &&& 31))
      refine gx_iload (q := 0) C dL_others_105 rfl ?_
      refine gx_icmp_ne (tgt := 149) C dL_others_107 (by decide) (fun c_107 => ?_) (fun c_107 => ?_)
      · skip
        exact absurd hv_102 c_107
      · skip
        refine gx_aload_n (q := 2) C dL_others_110 rfl ?_
        refine gx_iconst (v := 4) C dL_others_111 (by decide) ?_
        refine gx_iconst (v := 0) C dL_others_112 (by decide) ?_
        refine gx_callF C hD hI_9 (k_X6_set l hL1 hI_9.1 hJ_102.1 (IV_ok hJ_102) _ _) (cwV 2 C.2.2.2.2.1 gL_others_X6_set rfl rfl rfl kdV_X6_set ⟨Nat.le_of_ble_eq_true rfl, Nat.le_of_ble_eq_true rfl⟩) rfl rfl (Nat.le_of_ble_eq_true rfl) ⟨Nat.le_of_ble_eq_true rfl, Nat.le_of_ble_eq_true rfl⟩ dL_others_113 (fun f_10 hI_10 => ?_)
        obtain ⟨hv_113, hJ_113⟩ := set_4 hJ_102
        refine gx_top (-2) hv_113 ?_
        refine gx_bipush (v := (-2)) C dL_others_116 (by decide) ?_
        refine gx_icmp_ne (tgt := 149) C dL_others_118 (by decide) (fun c_118 => ?_) (fun c_118 => ?_)
        exact absurd (by decide) c_118
        refine gx_aload_n (q := 2) C dL_others_121 rfl ?_
        refine gx_iconst (v := 0) C dL_others_122 (by decide) ?_
        refine gx_bipush (v := 10) C dL_others_123 (by decide) ?_
        refine gx_callF C hD hI_10 (k_X6_set l hL1 hI_10.1 hJ_113.1 (IV_ok hJ_113) _ _) (cwV 2 C.2.2.2.2.1 gL_others_X6_set rfl rfl rfl kdV_X6_set ⟨Nat.le_of_ble_eq_true rfl, Nat.le_of_ble_eq_true rfl⟩) rfl rfl (Nat.le_of_ble_eq_true rfl) ⟨Nat.le_of_ble_eq_true rfl, Nat.le_of_ble_eq_true rfl⟩ dL_others_125 (fun f_11 hI_11 => ?_)
        obtain ⟨hv_125, hJ_125⟩ := set_0 hJ_113
        refine gx_top (-2) hv_125 ?_
        refine gx_bipush (v := (-2)) C dL_others_128 (by decide) ?_
        refine gx_icmp_ne (tgt := 149) C dL_others_130 (by decide) (fun c_130 => ?_) (fun c_130 => ?_)
        exact absurd (by decide) c_130
        refine gx_aload_n (q := 2) C dL_others_133 rfl ?_
        refine gx_iconst (v := 2) C dL_others_134 (by decide) ?_
        refine gx_bipush (v := 99) C dL_others_135 (by decide) ?_
        refine gx_callF C hD hI_11 (k_X6_set l hL1 hI_11.1 hJ_125.1 (IV_ok hJ_125) _ _) (cwV 2 C.2.2.2.2.1 gL_others_X6_set rfl rfl rfl kdV_X6_set ⟨Nat.le_of_ble_eq_true rfl, Nat.le_of_ble_eq_true rfl⟩) rfl rfl (Nat.le_of_ble_eq_true rfl) ⟨Nat.le_of_ble_eq_true rfl, Nat.le_of_ble_eq_true rfl⟩ dL_others_137 (fun f_12 hI_12 => ?_)
        obtain ⟨hv_137, hJ_137⟩ := set_2 hJ_125
        refine gx_top (-2) hv_137 ?_
        refine gx_bipush (v := (-2)) C dL_others_140 (by decide) ?_
        refine gx_icmp_ne (tgt := 149) C dL_others_142 (by decide) (fun c_142 => ?_) (fun c_142 => ?_)
        exact absurd (by decide) c_142
        refine gx_iconst (v := 1) C dL_others_145 (by decide) ?_
        refine gx_goto (tgt := 150) C dL_others_146 (by decide) ?_
        exact gx_zretL C hr dL_others_150 rfl ⟨rfl, _, _, _, hI_12, hJ_137⟩
    refine gx_iload (q := 1) C dL_others_28 rfl ?_
    refine gx_if_ne (tgt := 45) C dL_others_30 (by decide) (fun c_30 => ?_) (fun c_30 => ?_)
    · skip
      refine gx_iload (q := 1) C dL_others_45 rfl ?_
      refine gx_iconst (v := 1) C dL_others_47 (by decide) ?_
      refine gx_icmp_ne (tgt := 64) C dL_others_48 (by decide) (fun c_48 => ?_) (fun c_48 => ?_)
      · skip
        refine gx_iload (q := 1) C dL_others_64 rfl ?_
        refine gx_iconst (v := 2) C dL_others_66 (by decide) ?_
        refine gx_icmp_ne (tgt := 84) C dL_others_67 (by decide) (fun c_67 => ?_) (fun c_67 => ?_)
        · skip
          refine gx_iload_n (q := 4) C dL_others_84 rfl ?_
          refine gx_iconst (v := 2) C dL_others_85 (by decide) ?_
          refine gx_ishr C dL_others_86 ?_
          refine gx_bipush (v := 21) C dL_others_87 (by decide) ?_
          refine gx_callRS C (k_L_low l (yv >>> (2 &&& 31)) 21 (by first | decide | omega) (by first | decide | omega)) (va_cwS 2 C.2.2.2.2.1 gL_others_L_low rfl rfl rfl kdN_L_low ⟨Nat.le_of_ble_eq_true rfl, Nat.le_of_ble_eq_true rfl⟩) rfl rfl (Nat.le_of_ble_eq_true rfl) ⟨Nat.le_of_ble_eq_true rfl, Nat.le_of_ble_eq_true rfl⟩ dL_others_89 ?_
          exact jj_28 _ ((if_neg c_30).trans ((if_neg c_48).trans ((if_neg c_67).trans (rfl)))).symm
        · skip
          refine gx_bipush (v := 100) C dL_others_70 (by decide) ?_
          refine gx_iload_n (q := 4) C dL_others_72 rfl ?_
          refine gx_iconst (v := 2) C dL_others_73 (by decide) ?_
          refine gx_ishr C dL_others_74 ?_
          refine gx_bipush (v := 41) C dL_others_75 (by decide) ?_
          refine gx_callRS C (k_L_low l (yv >>> (2 &&& 31)) 41 (by first | decide | omega) (by first | decide | omega)) (va_cwS 2 C.2.2.2.2.1 gL_others_L_low rfl rfl rfl kdN_L_low ⟨Nat.le_of_ble_eq_true rfl, Nat.le_of_ble_eq_true rfl⟩) rfl rfl (Nat.le_of_ble_eq_true rfl) ⟨Nat.le_of_ble_eq_true rfl, Nat.le_of_ble_eq_true rfl⟩ dL_others_77 ?_
          refine gx_iadd C dL_others_80 ?_
          refine gx_goto (tgt := 92) C dL_others_81 (by decide) ?_
          exact jj_28 _ ((if_neg c_30).trans ((if_neg c_48).trans ((if_pos c_67).trans (rfl)))).symm
      · skip
        refine gx_iconst (v := 3) C dL_others_51 (by decide) ?_
        refine gx_iload_n (q := 4) C dL_others_52 rfl ?_
        refine gx_iconst (v := 2) C dL_others_53 (by decide) ?_
        refine gx_ishr C dL_others_54 ?_
        refine gx_bipush (v := 22) C dL_others_55 (by decide) ?_
        refine gx_callRS C (k_L_low l (yv >>> (2 &&& 31)) 22 (by first | decide | omega) (by first | decide | omega)) (va_cwS 2 C.2.2.2.2.1 gL_others_L_low rfl rfl rfl kdN_L_low ⟨Nat.le_of_ble_eq_true rfl, Nat.le_of_ble_eq_true rfl⟩) rfl rfl (Nat.le_of_ble_eq_true rfl) ⟨Nat.le_of_ble_eq_true rfl, Nat.le_of_ble_eq_true rfl⟩ dL_others_57 ?_
        refine gx_iadd C dL_others_60 ?_
        refine gx_goto (tgt := 92) C dL_others_61 (by decide) ?_
        exact jj_28 _ ((if_neg c_30).trans ((if_pos c_48).trans (rfl))).symm
    · skip
      refine gx_iconst (v := 1) C dL_others_33 (by decide) ?_
      refine gx_iload_n (q := 4) C dL_others_34 rfl ?_
      refine gx_iconst (v := 2) C dL_others_35 (by decide) ?_
      refine gx_ishr C dL_others_36 ?_
      refine gx_iconst (v := 3) C dL_others_37 (by decide) ?_
      refine gx_callRS C (k_L_low l (yv >>> (2 &&& 31)) 3 (by first | decide | omega) (by first | decide | omega)) (va_cwS 2 C.2.2.2.2.1 gL_others_L_low rfl rfl rfl kdN_L_low ⟨Nat.le_of_ble_eq_true rfl, Nat.le_of_ble_eq_true rfl⟩) rfl rfl (Nat.le_of_ble_eq_true rfl) ⟨Nat.le_of_ble_eq_true rfl, Nat.le_of_ble_eq_true rfl⟩ dL_others_38 ?_
      refine gx_iadd C dL_others_41 ?_
      refine gx_goto (tgt := 92) C dL_others_42 (by decide) ?_
      exact jj_28 _ ((if_pos c_30).trans (rfl)).symm
