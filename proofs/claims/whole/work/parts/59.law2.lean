/-! the row of cases -/
theorem zBh_Z (y : MS) : ∀ i, zBh y i = zBh (mz (y.1 0)) i
  | 0 => rfl
  | i + 1 => by
    have e1 : ∀ h, zComeOn y h = zComeOn (mz (y.1 0)) h := fun _ => rfl
    have e2 : ∀ h, zFiredTo y h 4 = zFiredTo (mz (y.1 0)) h 4 := fun _ => rfl
    unfold zBh
    rw [zBh_Z y i]
    simp only [e1, e2]
theorem zBest_Z (y : MS) : zBestHeat y = zBestHeat (mz (y.1 0)) := by
  unfold zBestHeat
  rw [zBh_Z y 61]
  rfl
theorem zFi_Z (y : MS) (q what : Int32) (a : Nat) (f0 : Int32) : ∀ j, zFi y q what a f0 j = zFi (mz (y.1 0)) q what a f0 j
  | 0 => rfl
  | j + 1 => by
    unfold zFi
    rw [zFi_Z y q what a f0 j]
    rfl
theorem zFo_Z (y : MS) (q what : Int32) : ∀ j, zFo y q what j = zFo (mz (y.1 0)) q what j
  | 0 => rfl
  | j + 1 => by
    unfold zFo
    rw [zFo_Z y q what j, zFi_Z]
theorem zFirst_Z (y : MS) (q what : Int32) : zFirst y q what = zFirst (mz (y.1 0)) q what := by
  unfold zFirst
  rw [zFo_Z y]
  rfl

set_option maxHeartbeats 1000000 in
theorem lc_set {p : Program} {l : Launch} {e : Env} {s : State} {m : MethodId} {below : List Frame} {meth : Method} {c : Code} {b L : Nat} {xs : Nat → Int32} {k : gK} (hL : L ≤ 2048) (C0 : lw_At p s m meth c b L xs) (C : gC k p s m #[Value.ref b] meth c cL_law RL 4 wsL_law) (hAO : va_AO RX5 s) {h1 o0 K i cells slots : Nat} {H : Heap} {locs : List Loc} {ls : Array Slot} (hI : LI s k h1 o0 K H locs) (hK : K < 2 ^ 31) (hl : lv_has ls 4 (lwl b h1 o0 i)) (hi : i + 4 ≤ L) (hc1 : cells + 27 ≤ 600000) (hc2 : slots + 315 ≤ 7302249) (kk : ∀ H2 locs2, LI s k h1 o0 (K + 1600) H2 locs2 → W p l e room_1 s m #[Value.ref b] below meth c H2 locs2 (cells + 27) (slots + 315) (lw_Z below #[Value.ref b] s) (F0 m 894 ls [])) : W p l e room_1 s m #[Value.ref b] below meth c H locs cells slots (lw_Z below #[Value.ref b] s) (F0 m 160 ls []) := by
  obtain ⟨q, y, A, o, L1, f1, L2, f2, hR, hP, hM, rfl, rfl, n1, n2, a1, a2, dj, P1, P2, hS⟩ := hI
  obtain ⟨hx, hb, hr, hml, hown, hts, hX, hbl, hlocks, hgv⟩ := id C0
  obtain ⟨gH, gN, gK, gM, gQ, gP⟩ := Rel_H hR
  have dj2 : ∀ a ∈ L2, a ∉ L1 := fun a ha hm => dj a hm ha
  have hz : cells ≤ room_1.cells ∧ slots ≤ room_1.slots := ⟨show cells ≤ 600000 by omega, show slots ≤ 7302249 by omega⟩
  refine lv_aload_n hx hb dL_law_160 rfl (lv_at hl 1 rfl) ?_
  refine lw_arg hL C0 hS hl 1 (by omega) rfl dL_law_161 dL_law_162 dL_law_163 dL_law_164 dL_law_165 ?_
  refine lw_arg hL C0 hS hl 2 (by omega) rfl dL_law_166 dL_law_167 dL_law_168 dL_law_169 dL_law_170 ?_
  refine lw_callM (x := vX6_set q (xs (i + 1)) (xs (i + 2))) C a1 dj2 P1 P2 hS hl (k_X6_set l n1 hP gH gN (xs (i + 1)) (xs (i + 2))) (fun _ _ h => by obtain ⟨h1, _⟩ := h; exact h1) (isPN_in hP 0 (by decide)) (isPN_0 hP) rfl (cwV 2 C.2.2.2.2.1 gL_law_X6_set rfl rfl rfl kdV_X6_set ⟨Nat.le_of_ble_eq_true rfl, Nat.le_of_ble_eq_true rfl⟩) rfl rfl (Nat.le_of_ble_eq_true rfl) hz dL_law_171 (fun v g1 H1 locs1 hp P1 P2 hS => ?_)
  obtain ⟨-, hP2⟩ := hp
  refine lv_aload_n hx hb dL_law_174 rfl (lv_at hl 2 rfl) ?_
  refine lw_arg hL C0 hS hl 1 (by omega) rfl dL_law_175 dL_law_176 dL_law_177 dL_law_178 dL_law_179 ?_
  refine lw_arg hL C0 hS hl 2 (by omega) rfl dL_law_180 dL_law_181 dL_law_182 dL_law_183 dL_law_184 ?_
  refine lw_callM (x := vX7_set y (xs (i + 1)) (xs (i + 2))) C a2 dj P2 P1 hS hl (k_X7_set l n2 hM gK (xs (i + 1)) (xs (i + 2))) (fun _ _ h => by obtain ⟨h1, _⟩ := h; exact h1) (isMS_in hM 0 (by decide)) (isMS_0 hM) rfl (cwV 2 C.2.2.2.2.1 gL_law_X7_set rfl rfl rfl kdV_X7_set ⟨Nat.le_of_ble_eq_true rfl, Nat.le_of_ble_eq_true rfl⟩) rfl rfl (Nat.le_of_ble_eq_true rfl) hz dL_law_185 (fun v2 g2 H2 locs2 hp2 P2 P1 hS => ?_)
  obtain ⟨-, hM2, -⟩ := hp2
  have hF := R_set hR (xs (i + 1)) (xs (i + 2))
  refine lv_icmp_eq (tgt := 894) hx hb dL_law_188 (by decide) (fun _ => ?_) (fun h => absurd hF.1 h)
  refine W.widen (k := cells + 27) (n := slots + 315) (by omega) (by omega) ?_
  exact kk _ _ ⟨_, _, A, o, L1, g1, L2, g2, Rel_K hF.2 (by omega), hP2, hM2, rfl, rfl, n1, n2, a1, a2, dj, P1, P2, hS⟩
set_option maxHeartbeats 1000000 in
theorem lc_pupil {p : Program} {l : Launch} {e : Env} {s : State} {m : MethodId} {below : List Frame} {meth : Method} {c : Code} {b L : Nat} {xs : Nat → Int32} {k : gK} (hL : L ≤ 2048) (C0 : lw_At p s m meth c b L xs) (C : gC k p s m #[Value.ref b] meth c cL_law RL 4 wsL_law) (hAO : va_AO RX5 s) {h1 o0 K i cells slots : Nat} {H : Heap} {locs : List Loc} {ls : Array Slot} (hI : LI s k h1 o0 K H locs) (hK : K < 2 ^ 31) (hl : lv_has ls 4 (lwl b h1 o0 i)) (hi : i + 4 ≤ L) (hc1 : cells + 27 ≤ 600000) (hc2 : slots + 315 ≤ 7302249) (kk : ∀ H2 locs2, LI s k h1 o0 (K + 1600) H2 locs2 → W p l e room_1 s m #[Value.ref b] below meth c H2 locs2 (cells + 27) (slots + 315) (lw_Z below #[Value.ref b] s) (F0 m 894 ls [])) : W p l e room_1 s m #[Value.ref b] below meth c H locs cells slots (lw_Z below #[Value.ref b] s) (F0 m 193 ls []) := by
  obtain ⟨q, y, A, o, L1, f1, L2, f2, hR, hP, hM, rfl, rfl, n1, n2, a1, a2, dj, P1, P2, hS⟩ := hI
  obtain ⟨hx, hb, hr, hml, hown, hts, hX, hbl, hlocks, hgv⟩ := id C0
  obtain ⟨gH, gN, gK, gM, gQ, gP⟩ := Rel_H hR
  have dj2 : ∀ a ∈ L2, a ∉ L1 := fun a ha hm => dj a hm ha
  have hz : cells ≤ room_1.cells ∧ slots ≤ room_1.slots := ⟨show cells ≤ 600000 by omega, show slots ≤ 7302249 by omega⟩
  refine lv_aload_n hx hb dL_law_193 rfl (lv_at hl 1 rfl) ?_
  refine lw_callM (x := vX6_pupil q) C a1 dj2 P1 P2 hS hl (k_X6_pupil l n1 hP gH gN) (fun _ _ h => by obtain ⟨h1, _⟩ := h; exact h1) (isPN_in hP 0 (by decide)) (isPN_0 hP) rfl (cwV 0 C.2.2.2.2.1 gL_law_X6_pupil rfl rfl rfl kdV_X6_pupil ⟨Nat.le_of_ble_eq_true rfl, Nat.le_of_ble_eq_true rfl⟩) rfl rfl (Nat.le_of_ble_eq_true rfl) hz dL_law_194 (fun v g1 H1 locs1 hp P1 P2 hS => ?_)
  obtain ⟨-, hP2⟩ := hp
  refine lv_aload_n hx hb dL_law_197 rfl (lv_at hl 2 rfl) ?_
  refine lw_callM (x := vX7_pupil y) C a2 dj P2 P1 hS hl (k_X7_pupil l n2 hM gK) (fun _ _ h => by obtain ⟨h1, _⟩ := h; exact h1) (isMS_in hM 0 (by decide)) (isMS_0 hM) rfl (cwV 0 C.2.2.2.2.1 gL_law_X7_pupil rfl rfl rfl kdV_X7_pupil ⟨Nat.le_of_ble_eq_true rfl, Nat.le_of_ble_eq_true rfl⟩) rfl rfl (Nat.le_of_ble_eq_true rfl) hz dL_law_198 (fun v2 g2 H2 locs2 hp2 P2 P1 hS => ?_)
  obtain ⟨-, hM2, -⟩ := hp2
  have hF := R_pupil hR
  refine lv_icmp_eq (tgt := 894) hx hb dL_law_201 (by decide) (fun _ => ?_) (fun h => absurd hF.1 h)
  refine W.widen (k := cells + 27) (n := slots + 315) (by omega) (by omega) ?_
  exact kk _ _ ⟨_, _, A, o, L1, g1, L2, g2, Rel_K hF.2 (by omega), hP2, hM2, rfl, rfl, n1, n2, a1, a2, dj, P1, P2, hS⟩
set_option maxHeartbeats 1000000 in
theorem lc_book {p : Program} {l : Launch} {e : Env} {s : State} {m : MethodId} {below : List Frame} {meth : Method} {c : Code} {b L : Nat} {xs : Nat → Int32} {k : gK} (hL : L ≤ 2048) (C0 : lw_At p s m meth c b L xs) (C : gC k p s m #[Value.ref b] meth c cL_law RL 4 wsL_law) (hAO : va_AO RX5 s) {h1 o0 K i cells slots : Nat} {H : Heap} {locs : List Loc} {ls : Array Slot} (hI : LI s k h1 o0 K H locs) (hK : K < 2 ^ 31) (hl : lv_has ls 4 (lwl b h1 o0 i)) (hi : i + 4 ≤ L) (hc1 : cells + 27 ≤ 600000) (hc2 : slots + 315 ≤ 7302249) (kk : ∀ H2 locs2, LI s k h1 o0 (K + 1600) H2 locs2 → W p l e room_1 s m #[Value.ref b] below meth c H2 locs2 (cells + 27) (slots + 315) (lw_Z below #[Value.ref b] s) (F0 m 894 ls [])) : W p l e room_1 s m #[Value.ref b] below meth c H locs cells slots (lw_Z below #[Value.ref b] s) (F0 m 206 ls []) := by
  obtain ⟨q, y, A, o, L1, f1, L2, f2, hR, hP, hM, rfl, rfl, n1, n2, a1, a2, dj, P1, P2, hS⟩ := hI
  obtain ⟨hx, hb, hr, hml, hown, hts, hX, hbl, hlocks, hgv⟩ := id C0
  obtain ⟨gH, gN, gK, gM, gQ, gP⟩ := Rel_H hR
  have dj2 : ∀ a ∈ L2, a ∉ L1 := fun a ha hm => dj a hm ha
  have hz : cells ≤ room_1.cells ∧ slots ≤ room_1.slots := ⟨show cells ≤ 600000 by omega, show slots ≤ 7302249 by omega⟩
  refine lv_aload_n hx hb dL_law_206 rfl (lv_at hl 1 rfl) ?_
  refine lw_arg hL C0 hS hl 1 (by omega) rfl dL_law_207 dL_law_208 dL_law_209 dL_law_210 dL_law_211 ?_
  refine lw_arg hL C0 hS hl 2 (by omega) rfl dL_law_212 dL_law_213 dL_law_214 dL_law_215 dL_law_216 ?_
  refine lw_arg hL C0 hS hl 3 (by omega) rfl dL_law_217 dL_law_218 dL_law_219 dL_law_220 dL_law_221 ?_
  refine lw_callM (x := vX6_book q (xs (i + 1)) (xs (i + 2)) (xs (i + 3))) C a1 dj2 P1 P2 hS hl (k_X6_book l n1 hP gH gN (xs (i + 1)) (xs (i + 2)) (xs (i + 3))) (fun _ _ h => by obtain ⟨h1, _⟩ := h; exact h1) (isPN_in hP 0 (by decide)) (isPN_0 hP) rfl (cwV 3 C.2.2.2.2.1 gL_law_X6_book rfl rfl rfl kdV_X6_book ⟨Nat.le_of_ble_eq_true rfl, Nat.le_of_ble_eq_true rfl⟩) rfl rfl (Nat.le_of_ble_eq_true rfl) hz dL_law_222 (fun v g1 H1 locs1 hp P1 P2 hS => ?_)
  obtain ⟨-, hP2⟩ := hp
  refine lv_aload_n hx hb dL_law_225 rfl (lv_at hl 2 rfl) ?_
  refine lw_arg hL C0 hS hl 1 (by omega) rfl dL_law_226 dL_law_227 dL_law_228 dL_law_229 dL_law_230 ?_
  refine lw_arg hL C0 hS hl 2 (by omega) rfl dL_law_231 dL_law_232 dL_law_233 dL_law_234 dL_law_235 ?_
  refine lw_arg hL C0 hS hl 3 (by omega) rfl dL_law_236 dL_law_237 dL_law_238 dL_law_239 dL_law_240 ?_
  refine lw_callM (x := vX7_book y (xs (i + 1)) (xs (i + 2)) (xs (i + 3))) C a2 dj P2 P1 hS hl (k_X7_book l n2 hM gK (xs (i + 1)) (xs (i + 2)) (xs (i + 3))) (fun _ _ h => by obtain ⟨h1, _⟩ := h; exact h1) (isMS_in hM 0 (by decide)) (isMS_0 hM) rfl (cwV 3 C.2.2.2.2.1 gL_law_X7_book rfl rfl rfl kdV_X7_book ⟨Nat.le_of_ble_eq_true rfl, Nat.le_of_ble_eq_true rfl⟩) rfl rfl (Nat.le_of_ble_eq_true rfl) hz dL_law_241 (fun v2 g2 H2 locs2 hp2 P2 P1 hS => ?_)
  obtain ⟨-, hM2, -⟩ := hp2
  have hF := R_book hR (xs (i + 1)) (xs (i + 2)) (xs (i + 3))
  refine lv_icmp_eq (tgt := 894) hx hb dL_law_244 (by decide) (fun _ => ?_) (fun h => absurd hF.1 h)
  refine W.widen (k := cells + 27) (n := slots + 315) (by omega) (by omega) ?_
  exact kk _ _ ⟨_, _, A, o, L1, g1, L2, g2, Rel_K hF.2 (by omega), hP2, hM2, rfl, rfl, n1, n2, a1, a2, dj, P1, P2, hS⟩
set_option maxHeartbeats 1000000 in
theorem lc_giveBack {p : Program} {l : Launch} {e : Env} {s : State} {m : MethodId} {below : List Frame} {meth : Method} {c : Code} {b L : Nat} {xs : Nat → Int32} {k : gK} (hL : L ≤ 2048) (C0 : lw_At p s m meth c b L xs) (C : gC k p s m #[Value.ref b] meth c cL_law RL 4 wsL_law) (hAO : va_AO RX5 s) {h1 o0 K i cells slots : Nat} {H : Heap} {locs : List Loc} {ls : Array Slot} (hI : LI s k h1 o0 K H locs) (hK : K < 2 ^ 31) (hl : lv_has ls 4 (lwl b h1 o0 i)) (hi : i + 4 ≤ L) (hc1 : cells + 27 ≤ 600000) (hc2 : slots + 315 ≤ 7302249) (kk : ∀ H2 locs2, LI s k h1 o0 (K + 1600) H2 locs2 → W p l e room_1 s m #[Value.ref b] below meth c H2 locs2 (cells + 27) (slots + 315) (lw_Z below #[Value.ref b] s) (F0 m 894 ls [])) : W p l e room_1 s m #[Value.ref b] below meth c H locs cells slots (lw_Z below #[Value.ref b] s) (F0 m 249 ls []) := by
  obtain ⟨q, y, A, o, L1, f1, L2, f2, hR, hP, hM, rfl, rfl, n1, n2, a1, a2, dj, P1, P2, hS⟩ := hI
  obtain ⟨hx, hb, hr, hml, hown, hts, hX, hbl, hlocks, hgv⟩ := id C0
  obtain ⟨gH, gN, gK, gM, gQ, gP⟩ := Rel_H hR
  have dj2 : ∀ a ∈ L2, a ∉ L1 := fun a ha hm => dj a hm ha
  have hz : cells ≤ room_1.cells ∧ slots ≤ room_1.slots := ⟨show cells ≤ 600000 by omega, show slots ≤ 7302249 by omega⟩
  refine lv_aload_n hx hb dL_law_249 rfl (lv_at hl 1 rfl) ?_
  refine lw_arg hL C0 hS hl 1 (by omega) rfl dL_law_250 dL_law_251 dL_law_252 dL_law_253 dL_law_254 ?_
  refine lw_arg hL C0 hS hl 2 (by omega) rfl dL_law_255 dL_law_256 dL_law_257 dL_law_258 dL_law_259 ?_
  refine lw_callM (x := vX6_giveBack q (xs (i + 1)) (xs (i + 2))) C a1 dj2 P1 P2 hS hl (k_X6_giveBack l n1 hP gH gN (xs (i + 1)) (xs (i + 2))) (fun _ _ h => by obtain ⟨h1, _⟩ := h; exact h1) (isPN_in hP 0 (by decide)) (isPN_0 hP) rfl (cwV 2 C.2.2.2.2.1 gL_law_X6_giveBack rfl rfl rfl kdV_X6_giveBack ⟨Nat.le_of_ble_eq_true rfl, Nat.le_of_ble_eq_true rfl⟩) rfl rfl (Nat.le_of_ble_eq_true rfl) hz dL_law_260 (fun v g1 H1 locs1 hp P1 P2 hS => ?_)
  obtain ⟨-, hP2⟩ := hp
  refine lv_aload_n hx hb dL_law_263 rfl (lv_at hl 2 rfl) ?_
  refine lw_arg hL C0 hS hl 1 (by omega) rfl dL_law_264 dL_law_265 dL_law_266 dL_law_267 dL_law_268 ?_
  refine lw_arg hL C0 hS hl 2 (by omega) rfl dL_law_269 dL_law_270 dL_law_271 dL_law_272 dL_law_273 ?_
  refine lw_callM (x := vX7_giveBack y (xs (i + 1)) (xs (i + 2))) C a2 dj P2 P1 hS hl (k_X7_giveBack l n2 hM gK gQ (xs (i + 1)) (xs (i + 2))) (fun _ _ h => by obtain ⟨h1, _⟩ := h; exact h1) (isMS_in hM 0 (by decide)) (isMS_0 hM) rfl (cwV 2 C.2.2.2.2.1 gL_law_X7_giveBack rfl rfl rfl kdV_X7_giveBack ⟨Nat.le_of_ble_eq_true rfl, Nat.le_of_ble_eq_true rfl⟩) rfl rfl (Nat.le_of_ble_eq_true rfl) hz dL_law_274 (fun v2 g2 H2 locs2 hp2 P2 P1 hS => ?_)
  obtain ⟨-, hM2, -⟩ := hp2
  have hF := R_giveBack hR (xs (i + 1)) (xs (i + 2))
  refine lv_icmp_eq (tgt := 894) hx hb dL_law_277 (by decide) (fun _ => ?_) (fun h => absurd hF.1 h)
  refine W.widen (k := cells + 27) (n := slots + 315) (by omega) (by omega) ?_
  exact kk _ _ ⟨_, _, A, o, L1, g1, L2, g2, Rel_K hF.2 (by omega), hP2, hM2, rfl, rfl, n1, n2, a1, a2, dj, P1, P2, hS⟩
set_option maxHeartbeats 1000000 in
theorem lc_throwPot {p : Program} {l : Launch} {e : Env} {s : State} {m : MethodId} {below : List Frame} {meth : Method} {c : Code} {b L : Nat} {xs : Nat → Int32} {k : gK} (hL : L ≤ 2048) (C0 : lw_At p s m meth c b L xs) (C : gC k p s m #[Value.ref b] meth c cL_law RL 4 wsL_law) (hAO : va_AO RX5 s) {h1 o0 K i cells slots : Nat} {H : Heap} {locs : List Loc} {ls : Array Slot} (hI : LI s k h1 o0 K H locs) (hK : K < 2 ^ 31) (hl : lv_has ls 4 (lwl b h1 o0 i)) (hi : i + 4 ≤ L) (hc1 : cells + 27 ≤ 600000) (hc2 : slots + 315 ≤ 7302249) (kk : ∀ H2 locs2, LI s k h1 o0 (K + 1600) H2 locs2 → W p l e room_1 s m #[Value.ref b] below meth c H2 locs2 (cells + 27) (slots + 315) (lw_Z below #[Value.ref b] s) (F0 m 894 ls [])) : W p l e room_1 s m #[Value.ref b] below meth c H locs cells slots (lw_Z below #[Value.ref b] s) (F0 m 282 ls []) := by
  obtain ⟨q, y, A, o, L1, f1, L2, f2, hR, hP, hM, rfl, rfl, n1, n2, a1, a2, dj, P1, P2, hS⟩ := hI
  obtain ⟨hx, hb, hr, hml, hown, hts, hX, hbl, hlocks, hgv⟩ := id C0
  obtain ⟨gH, gN, gK, gM, gQ, gP⟩ := Rel_H hR
  have dj2 : ∀ a ∈ L2, a ∉ L1 := fun a ha hm => dj a hm ha
  have hz : cells ≤ room_1.cells ∧ slots ≤ room_1.slots := ⟨show cells ≤ 600000 by omega, show slots ≤ 7302249 by omega⟩
  refine lv_aload_n hx hb dL_law_282 rfl (lv_at hl 1 rfl) ?_
  refine lw_arg hL C0 hS hl 1 (by omega) rfl dL_law_283 dL_law_284 dL_law_285 dL_law_286 dL_law_287 ?_
  refine lw_arg hL C0 hS hl 2 (by omega) rfl dL_law_288 dL_law_289 dL_law_290 dL_law_291 dL_law_292 ?_
  refine lw_callM (x := vX6_throwPot q (xs (i + 1)) (xs (i + 2))) C a1 dj2 P1 P2 hS hl (k_X6_throwPot l n1 hP gH gN (xs (i + 1)) (xs (i + 2))) (fun _ _ h => by obtain ⟨h1, _⟩ := h; exact h1) (isPN_in hP 0 (by decide)) (isPN_0 hP) rfl (cwV 2 C.2.2.2.2.1 gL_law_X6_throwPot rfl rfl rfl kdV_X6_throwPot ⟨Nat.le_of_ble_eq_true rfl, Nat.le_of_ble_eq_true rfl⟩) rfl rfl (Nat.le_of_ble_eq_true rfl) hz dL_law_293 (fun v g1 H1 locs1 hp P1 P2 hS => ?_)
  obtain ⟨-, hP2⟩ := hp
  refine lv_aload_n hx hb dL_law_296 rfl (lv_at hl 2 rfl) ?_
  refine lw_arg hL C0 hS hl 1 (by omega) rfl dL_law_297 dL_law_298 dL_law_299 dL_law_300 dL_law_301 ?_
  refine lw_arg hL C0 hS hl 2 (by omega) rfl dL_law_302 dL_law_303 dL_law_304 dL_law_305 dL_law_306 ?_
  refine lw_callM (x := vX7_throwPot y (xs (i + 1)) (xs (i + 2))) C a2 dj P2 P1 hS hl (k_X7_throwPot l n2 hM gM gQ gK (xs (i + 1)) (xs (i + 2))) (fun _ _ h => by obtain ⟨h1, _⟩ := h; exact h1) (isMS_in hM 0 (by decide)) (isMS_0 hM) rfl (cwV 2 C.2.2.2.2.1 gL_law_X7_throwPot rfl rfl rfl kdV_X7_throwPot ⟨Nat.le_of_ble_eq_true rfl, Nat.le_of_ble_eq_true rfl⟩) rfl rfl (Nat.le_of_ble_eq_true rfl) hz dL_law_307 (fun v2 g2 H2 locs2 hp2 P2 P1 hS => ?_)
  obtain ⟨-, hM2, -⟩ := hp2
  have hF := R_throw hR (xs (i + 1)) (xs (i + 2))
  refine lv_icmp_eq (tgt := 894) hx hb dL_law_310 (by decide) (fun _ => ?_) (fun h => absurd hF.1 h)
  refine W.widen (k := cells + 27) (n := slots + 315) (by omega) (by omega) ?_
  exact kk _ _ ⟨_, _, A, o, L1, g1, L2, g2, Rel_K hF.2 (by omega), hP2, hM2, rfl, rfl, n1, n2, a1, a2, dj, P1, P2, hS⟩
set_option maxHeartbeats 1000000 in
theorem lc_load {p : Program} {l : Launch} {e : Env} {s : State} {m : MethodId} {below : List Frame} {meth : Method} {c : Code} {b L : Nat} {xs : Nat → Int32} {k : gK} (hL : L ≤ 2048) (C0 : lw_At p s m meth c b L xs) (C : gC k p s m #[Value.ref b] meth c cL_law RL 4 wsL_law) (hAO : va_AO RX5 s) {h1 o0 K i cells slots : Nat} {H : Heap} {locs : List Loc} {ls : Array Slot} (hI : LI s k h1 o0 K H locs) (hK : K < 2 ^ 31) (hl : lv_has ls 4 (lwl b h1 o0 i)) (hi : i + 4 ≤ L) (hc1 : cells + 27 ≤ 600000) (hc2 : slots + 315 ≤ 7302249) (kk : ∀ H2 locs2, LI s k h1 o0 (K + 1600) H2 locs2 → W p l e room_1 s m #[Value.ref b] below meth c H2 locs2 (cells + 27) (slots + 315) (lw_Z below #[Value.ref b] s) (F0 m 894 ls [])) : W p l e room_1 s m #[Value.ref b] below meth c H locs cells slots (lw_Z below #[Value.ref b] s) (F0 m 315 ls []) := by
  obtain ⟨q, y, A, o, L1, f1, L2, f2, hR, hP, hM, rfl, rfl, n1, n2, a1, a2, dj, P1, P2, hS⟩ := hI
  obtain ⟨hx, hb, hr, hml, hown, hts, hX, hbl, hlocks, hgv⟩ := id C0
  obtain ⟨gH, gN, gK, gM, gQ, gP⟩ := Rel_H hR
  have dj2 : ∀ a ∈ L2, a ∉ L1 := fun a ha hm => dj a hm ha
  have hz : cells ≤ room_1.cells ∧ slots ≤ room_1.slots := ⟨show cells ≤ 600000 by omega, show slots ≤ 7302249 by omega⟩
  refine lv_aload_n hx hb dL_law_315 rfl (lv_at hl 1 rfl) ?_
  refine lw_arg hL C0 hS hl 1 (by omega) rfl dL_law_316 dL_law_317 dL_law_318 dL_law_319 dL_law_320 ?_
  refine lw_callM (x := vX6_load q (xs (i + 1))) C a1 dj2 P1 P2 hS hl (k_X6_load l n1 hP gH gN (xs (i + 1))) (fun _ _ h => by obtain ⟨h1, _⟩ := h; exact h1) (isPN_in hP 0 (by decide)) (isPN_0 hP) rfl (cwV 1 C.2.2.2.2.1 gL_law_X6_load rfl rfl rfl kdV_X6_load ⟨Nat.le_of_ble_eq_true rfl, Nat.le_of_ble_eq_true rfl⟩) rfl rfl (Nat.le_of_ble_eq_true rfl) hz dL_law_321 (fun v g1 H1 locs1 hp P1 P2 hS => ?_)
  obtain ⟨-, hP2⟩ := hp
  refine lv_aload_n hx hb dL_law_324 rfl (lv_at hl 2 rfl) ?_
  refine lw_arg hL C0 hS hl 1 (by omega) rfl dL_law_325 dL_law_326 dL_law_327 dL_law_328 dL_law_329 ?_
  refine lw_callM (x := vX7_load y (xs (i + 1))) C a2 dj P2 P1 hS hl (k_X7_load l n2 hM gM gK (xs (i + 1))) (fun _ _ h => by obtain ⟨h1, _⟩ := h; exact h1) (isMS_in hM 0 (by decide)) (isMS_0 hM) rfl (cwV 1 C.2.2.2.2.1 gL_law_X7_load rfl rfl rfl kdV_X7_load ⟨Nat.le_of_ble_eq_true rfl, Nat.le_of_ble_eq_true rfl⟩) rfl rfl (Nat.le_of_ble_eq_true rfl) hz dL_law_330 (fun v2 g2 H2 locs2 hp2 P2 P1 hS => ?_)
  obtain ⟨-, hM2, -⟩ := hp2
  have hF := R_load hR (xs (i + 1))
  refine lv_icmp_eq (tgt := 894) hx hb dL_law_333 (by decide) (fun _ => ?_) (fun h => absurd hF.1 h)
  refine W.widen (k := cells + 27) (n := slots + 315) (by omega) (by omega) ?_
  exact kk _ _ ⟨_, _, A, o, L1, g1, L2, g2, Rel_K hF.2 (by omega), hP2, hM2, rfl, rfl, n1, n2, a1, a2, dj, P1, P2, hS⟩
set_option maxHeartbeats 1000000 in
theorem lc_unload {p : Program} {l : Launch} {e : Env} {s : State} {m : MethodId} {below : List Frame} {meth : Method} {c : Code} {b L : Nat} {xs : Nat → Int32} {k : gK} (hL : L ≤ 2048) (C0 : lw_At p s m meth c b L xs) (C : gC k p s m #[Value.ref b] meth c cL_law RL 4 wsL_law) (hAO : va_AO RX5 s) {h1 o0 K i cells slots : Nat} {H : Heap} {locs : List Loc} {ls : Array Slot} (hI : LI s k h1 o0 K H locs) (hK : K < 2 ^ 31) (hl : lv_has ls 4 (lwl b h1 o0 i)) (hi : i + 4 ≤ L) (hc1 : cells + 27 ≤ 600000) (hc2 : slots + 315 ≤ 7302249) (kk : ∀ H2 locs2, LI s k h1 o0 (K + 1600) H2 locs2 → W p l e room_1 s m #[Value.ref b] below meth c H2 locs2 (cells + 27) (slots + 315) (lw_Z below #[Value.ref b] s) (F0 m 894 ls [])) : W p l e room_1 s m #[Value.ref b] below meth c H locs cells slots (lw_Z below #[Value.ref b] s) (F0 m 338 ls []) := by
  obtain ⟨q, y, A, o, L1, f1, L2, f2, hR, hP, hM, rfl, rfl, n1, n2, a1, a2, dj, P1, P2, hS⟩ := hI
  obtain ⟨hx, hb, hr, hml, hown, hts, hX, hbl, hlocks, hgv⟩ := id C0
  obtain ⟨gH, gN, gK, gM, gQ, gP⟩ := Rel_H hR
  have dj2 : ∀ a ∈ L2, a ∉ L1 := fun a ha hm => dj a hm ha
  have hz : cells ≤ room_1.cells ∧ slots ≤ room_1.slots := ⟨show cells ≤ 600000 by omega, show slots ≤ 7302249 by omega⟩
  refine lv_aload_n hx hb dL_law_338 rfl (lv_at hl 1 rfl) ?_
  refine lw_arg hL C0 hS hl 1 (by omega) rfl dL_law_339 dL_law_340 dL_law_341 dL_law_342 dL_law_343 ?_
  refine lw_callM (x := vX6_unload q (xs (i + 1))) C a1 dj2 P1 P2 hS hl (k_X6_unload l n1 hP gH gN (xs (i + 1))) (fun _ _ h => by obtain ⟨h1, _⟩ := h; exact h1) (isPN_in hP 0 (by decide)) (isPN_0 hP) rfl (cwV 1 C.2.2.2.2.1 gL_law_X6_unload rfl rfl rfl kdV_X6_unload ⟨Nat.le_of_ble_eq_true rfl, Nat.le_of_ble_eq_true rfl⟩) rfl rfl (Nat.le_of_ble_eq_true rfl) hz dL_law_344 (fun v g1 H1 locs1 hp P1 P2 hS => ?_)
  obtain ⟨-, hP2⟩ := hp
  refine lv_aload_n hx hb dL_law_347 rfl (lv_at hl 2 rfl) ?_
  refine lw_arg hL C0 hS hl 1 (by omega) rfl dL_law_348 dL_law_349 dL_law_350 dL_law_351 dL_law_352 ?_
  refine lw_callM (x := vX7_unload y (xs (i + 1))) C a2 dj P2 P1 hS hl (k_X7_unload l n2 hM gM gK (xs (i + 1))) (fun _ _ h => by obtain ⟨h1, _⟩ := h; exact h1) (isMS_in hM 0 (by decide)) (isMS_0 hM) rfl (cwV 1 C.2.2.2.2.1 gL_law_X7_unload rfl rfl rfl kdV_X7_unload ⟨Nat.le_of_ble_eq_true rfl, Nat.le_of_ble_eq_true rfl⟩) rfl rfl (Nat.le_of_ble_eq_true rfl) hz dL_law_353 (fun v2 g2 H2 locs2 hp2 P2 P1 hS => ?_)
  obtain ⟨-, hM2, -⟩ := hp2
  have hF := R_unload hR (xs (i + 1))
  refine lv_icmp_eq (tgt := 894) hx hb dL_law_356 (by decide) (fun _ => ?_) (fun h => absurd hF.1 h)
  refine W.widen (k := cells + 27) (n := slots + 315) (by omega) (by omega) ?_
  exact kk _ _ ⟨_, _, A, o, L1, g1, L2, g2, Rel_K hF.2 (by omega), hP2, hM2, rfl, rfl, n1, n2, a1, a2, dj, P1, P2, hS⟩
set_option maxHeartbeats 1000000 in
theorem lc_fire {p : Program} {l : Launch} {e : Env} {s : State} {m : MethodId} {below : List Frame} {meth : Method} {c : Code} {b L : Nat} {xs : Nat → Int32} {k : gK} (hL : L ≤ 2048) (C0 : lw_At p s m meth c b L xs) (C : gC k p s m #[Value.ref b] meth c cL_law RL 4 wsL_law) (hAO : va_AO RX5 s) {h1 o0 K i cells slots : Nat} {H : Heap} {locs : List Loc} {ls : Array Slot} (hI : LI s k h1 o0 K H locs) (hK : K < 2 ^ 31) (hl : lv_has ls 4 (lwl b h1 o0 i)) (hi : i + 4 ≤ L) (hc1 : cells + 27 ≤ 600000) (hc2 : slots + 315 ≤ 7302249) (kk : ∀ H2 locs2, LI s k h1 o0 (K + 1600) H2 locs2 → W p l e room_1 s m #[Value.ref b] below meth c H2 locs2 (cells + 27) (slots + 315) (lw_Z below #[Value.ref b] s) (F0 m 894 ls [])) : W p l e room_1 s m #[Value.ref b] below meth c H locs cells slots (lw_Z below #[Value.ref b] s) (F0 m 361 ls []) := by
  obtain ⟨q, y, A, o, L1, f1, L2, f2, hR, hP, hM, rfl, rfl, n1, n2, a1, a2, dj, P1, P2, hS⟩ := hI
  obtain ⟨hx, hb, hr, hml, hown, hts, hX, hbl, hlocks, hgv⟩ := id C0
  obtain ⟨gH, gN, gK, gM, gQ, gP⟩ := Rel_H hR
  have dj2 : ∀ a ∈ L2, a ∉ L1 := fun a ha hm => dj a hm ha
  have hz : cells ≤ room_1.cells ∧ slots ≤ room_1.slots := ⟨show cells ≤ 600000 by omega, show slots ≤ 7302249 by omega⟩
  refine lv_aload_n hx hb dL_law_361 rfl (lv_at hl 1 rfl) ?_
  refine lw_arg hL C0 hS hl 1 (by omega) rfl dL_law_362 dL_law_363 dL_law_364 dL_law_365 dL_law_366 ?_
  refine lw_callM (x := vX6_fire q (xs (i + 1))) C a1 dj2 P1 P2 hS hl (k_X6_fire l n1 hP gH gN (xs (i + 1))) (fun _ _ h => by obtain ⟨h1, _⟩ := h; exact h1) (isPN_in hP 0 (by decide)) (isPN_0 hP) rfl (cwV 1 C.2.2.2.2.1 gL_law_X6_fire rfl rfl rfl kdV_X6_fire ⟨Nat.le_of_ble_eq_true rfl, Nat.le_of_ble_eq_true rfl⟩) rfl rfl (Nat.le_of_ble_eq_true rfl) hz dL_law_367 (fun v g1 H1 locs1 hp P1 P2 hS => ?_)
  obtain ⟨-, hP2⟩ := hp
  refine lv_aload_n hx hb dL_law_370 rfl (lv_at hl 2 rfl) ?_
  refine lw_arg hL C0 hS hl 1 (by omega) rfl dL_law_371 dL_law_372 dL_law_373 dL_law_374 dL_law_375 ?_
  refine lw_callM (x := vX7_fire y (xs (i + 1))) C a2 dj P2 P1 hS hl (k_X7_fire l n2 hM gM gK (xs (i + 1))) (fun _ _ h => by obtain ⟨h1, _⟩ := h; exact h1) (isMS_in hM 0 (by decide)) (isMS_0 hM) rfl (cwV 1 C.2.2.2.2.1 gL_law_X7_fire rfl rfl rfl kdV_X7_fire ⟨Nat.le_of_ble_eq_true rfl, Nat.le_of_ble_eq_true rfl⟩) rfl rfl (Nat.le_of_ble_eq_true rfl) hz dL_law_376 (fun v2 g2 H2 locs2 hp2 P2 P1 hS => ?_)
  obtain ⟨-, hM2, -⟩ := hp2
  have hF := R_fire hR (xs (i + 1))
  refine lv_icmp_eq (tgt := 894) hx hb dL_law_379 (by decide) (fun _ => ?_) (fun h => absurd hF.1 h)
  refine W.widen (k := cells + 27) (n := slots + 315) (by omega) (by omega) ?_
  exact kk _ _ ⟨_, _, A, o, L1, g1, L2, g2, Rel_K hF.2 (by omega), hP2, hM2, rfl, rfl, n1, n2, a1, a2, dj, P1, P2, hS⟩
set_option maxHeartbeats 1000000 in
theorem lc_glaze {p : Program} {l : Launch} {e : Env} {s : State} {m : MethodId} {below : List Frame} {meth : Method} {c : Code} {b L : Nat} {xs : Nat → Int32} {k : gK} (hL : L ≤ 2048) (C0 : lw_At p s m meth c b L xs) (C : gC k p s m #[Value.ref b] meth c cL_law RL 4 wsL_law) (hAO : va_AO RX5 s) {h1 o0 K i cells slots : Nat} {H : Heap} {locs : List Loc} {ls : Array Slot} (hI : LI s k h1 o0 K H locs) (hK : K < 2 ^ 31) (hl : lv_has ls 4 (lwl b h1 o0 i)) (hi : i + 4 ≤ L) (hc1 : cells + 27 ≤ 600000) (hc2 : slots + 315 ≤ 7302249) (kk : ∀ H2 locs2, LI s k h1 o0 (K + 1600) H2 locs2 → W p l e room_1 s m #[Value.ref b] below meth c H2 locs2 (cells + 27) (slots + 315) (lw_Z below #[Value.ref b] s) (F0 m 894 ls [])) : W p l e room_1 s m #[Value.ref b] below meth c H locs cells slots (lw_Z below #[Value.ref b] s) (F0 m 384 ls []) := by
  obtain ⟨q, y, A, o, L1, f1, L2, f2, hR, hP, hM, rfl, rfl, n1, n2, a1, a2, dj, P1, P2, hS⟩ := hI
  obtain ⟨hx, hb, hr, hml, hown, hts, hX, hbl, hlocks, hgv⟩ := id C0
  obtain ⟨gH, gN, gK, gM, gQ, gP⟩ := Rel_H hR
  have dj2 : ∀ a ∈ L2, a ∉ L1 := fun a ha hm => dj a hm ha
  have hz : cells ≤ room_1.cells ∧ slots ≤ room_1.slots := ⟨show cells ≤ 600000 by omega, show slots ≤ 7302249 by omega⟩
  refine lv_aload_n hx hb dL_law_384 rfl (lv_at hl 1 rfl) ?_
  refine lw_arg hL C0 hS hl 1 (by omega) rfl dL_law_385 dL_law_386 dL_law_387 dL_law_388 dL_law_389 ?_
  refine lw_arg hL C0 hS hl 2 (by omega) rfl dL_law_390 dL_law_391 dL_law_392 dL_law_393 dL_law_394 ?_
  refine lw_callM (x := vX6_glaze q (xs (i + 1)) (xs (i + 2))) C a1 dj2 P1 P2 hS hl (k_X6_glaze l n1 hP gH gN (xs (i + 1)) (xs (i + 2))) (fun _ _ h => by obtain ⟨h1, _⟩ := h; exact h1) (isPN_in hP 0 (by decide)) (isPN_0 hP) rfl (cwV 2 C.2.2.2.2.1 gL_law_X6_glaze rfl rfl rfl kdV_X6_glaze ⟨Nat.le_of_ble_eq_true rfl, Nat.le_of_ble_eq_true rfl⟩) rfl rfl (Nat.le_of_ble_eq_true rfl) hz dL_law_395 (fun v g1 H1 locs1 hp P1 P2 hS => ?_)
  obtain ⟨-, hP2⟩ := hp
  refine lv_aload_n hx hb dL_law_398 rfl (lv_at hl 2 rfl) ?_
  refine lw_arg hL C0 hS hl 1 (by omega) rfl dL_law_399 dL_law_400 dL_law_401 dL_law_402 dL_law_403 ?_
  refine lw_arg hL C0 hS hl 2 (by omega) rfl dL_law_404 dL_law_405 dL_law_406 dL_law_407 dL_law_408 ?_
  refine lw_callM (x := vX7_glaze y (xs (i + 1)) (xs (i + 2))) C a2 dj P2 P1 hS hl (k_X7_glaze l n2 hM gM gK (xs (i + 1)) (xs (i + 2))) (fun _ _ h => by obtain ⟨h1, _⟩ := h; exact h1) (isMS_in hM 0 (by decide)) (isMS_0 hM) rfl (cwV 2 C.2.2.2.2.1 gL_law_X7_glaze rfl rfl rfl kdV_X7_glaze ⟨Nat.le_of_ble_eq_true rfl, Nat.le_of_ble_eq_true rfl⟩) rfl rfl (Nat.le_of_ble_eq_true rfl) hz dL_law_409 (fun v2 g2 H2 locs2 hp2 P2 P1 hS => ?_)
  obtain ⟨-, hM2, -⟩ := hp2
  have hF := R_glaze hR (xs (i + 1)) (xs (i + 2))
  refine lv_icmp_eq (tgt := 894) hx hb dL_law_412 (by decide) (fun _ => ?_) (fun h => absurd hF.1 h)
  refine W.widen (k := cells + 27) (n := slots + 315) (by omega) (by omega) ?_
  exact kk _ _ ⟨_, _, A, o, L1, g1, L2, g2, Rel_K hF.2 (by omega), hP2, hM2, rfl, rfl, n1, n2, a1, a2, dj, P1, P2, hS⟩
set_option maxHeartbeats 1000000 in
theorem lc_fill {p : Program} {l : Launch} {e : Env} {s : State} {m : MethodId} {below : List Frame} {meth : Method} {c : Code} {b L : Nat} {xs : Nat → Int32} {k : gK} (hL : L ≤ 2048) (C0 : lw_At p s m meth c b L xs) (C : gC k p s m #[Value.ref b] meth c cL_law RL 4 wsL_law) (hAO : va_AO RX5 s) {h1 o0 K i cells slots : Nat} {H : Heap} {locs : List Loc} {ls : Array Slot} (hI : LI s k h1 o0 K H locs) (hK : K < 2 ^ 31) (hl : lv_has ls 4 (lwl b h1 o0 i)) (hi : i + 4 ≤ L) (hc1 : cells + 27 ≤ 600000) (hc2 : slots + 315 ≤ 7302249) (kk : ∀ H2 locs2, LI s k h1 o0 (K + 1600) H2 locs2 → W p l e room_1 s m #[Value.ref b] below meth c H2 locs2 (cells + 27) (slots + 315) (lw_Z below #[Value.ref b] s) (F0 m 894 ls [])) : W p l e room_1 s m #[Value.ref b] below meth c H locs cells slots (lw_Z below #[Value.ref b] s) (F0 m 417 ls []) := by
  obtain ⟨q, y, A, o, L1, f1, L2, f2, hR, hP, hM, rfl, rfl, n1, n2, a1, a2, dj, P1, P2, hS⟩ := hI
  obtain ⟨hx, hb, hr, hml, hown, hts, hX, hbl, hlocks, hgv⟩ := id C0
  obtain ⟨gH, gN, gK, gM, gQ, gP⟩ := Rel_H hR
  have dj2 : ∀ a ∈ L2, a ∉ L1 := fun a ha hm => dj a hm ha
  have hz : cells ≤ room_1.cells ∧ slots ≤ room_1.slots := ⟨show cells ≤ 600000 by omega, show slots ≤ 7302249 by omega⟩
  refine lv_aload_n hx hb dL_law_417 rfl (lv_at hl 1 rfl) ?_
  refine lw_arg hL C0 hS hl 1 (by omega) rfl dL_law_418 dL_law_419 dL_law_420 dL_law_421 dL_law_422 ?_
  refine lw_arg hL C0 hS hl 2 (by omega) rfl dL_law_423 dL_law_424 dL_law_425 dL_law_426 dL_law_427 ?_
  refine lw_callM (x := vX6_fill q (xs (i + 1)) (xs (i + 2))) C a1 dj2 P1 P2 hS hl (k_X6_fill l n1 hP gH gN (xs (i + 1)) (xs (i + 2))) (fun _ _ h => by obtain ⟨h1, _⟩ := h; exact h1) (isPN_in hP 0 (by decide)) (isPN_0 hP) rfl (cwV 2 C.2.2.2.2.1 gL_law_X6_fill rfl rfl rfl kdV_X6_fill ⟨Nat.le_of_ble_eq_true rfl, Nat.le_of_ble_eq_true rfl⟩) rfl rfl (Nat.le_of_ble_eq_true rfl) hz dL_law_428 (fun v g1 H1 locs1 hp P1 P2 hS => ?_)
  obtain ⟨-, hP2⟩ := hp
  refine lv_aload_n hx hb dL_law_431 rfl (lv_at hl 2 rfl) ?_
  refine lw_arg hL C0 hS hl 1 (by omega) rfl dL_law_432 dL_law_433 dL_law_434 dL_law_435 dL_law_436 ?_
  refine lw_arg hL C0 hS hl 2 (by omega) rfl dL_law_437 dL_law_438 dL_law_439 dL_law_440 dL_law_441 ?_
  refine lw_callM (x := vX7_fill y (xs (i + 1)) (xs (i + 2))) C a2 dj P2 P1 hS hl (k_X7_fill l n2 hM gK (xs (i + 1)) (xs (i + 2))) (fun _ _ h => by obtain ⟨h1, _⟩ := h; exact h1) (isMS_in hM 0 (by decide)) (isMS_0 hM) rfl (cwV 2 C.2.2.2.2.1 gL_law_X7_fill rfl rfl rfl kdV_X7_fill ⟨Nat.le_of_ble_eq_true rfl, Nat.le_of_ble_eq_true rfl⟩) rfl rfl (Nat.le_of_ble_eq_true rfl) hz dL_law_442 (fun v2 g2 H2 locs2 hp2 P2 P1 hS => ?_)
  obtain ⟨-, hM2, -⟩ := hp2
  have hF := R_fill hR (xs (i + 1)) (xs (i + 2))
  refine lv_icmp_eq (tgt := 894) hx hb dL_law_445 (by decide) (fun _ => ?_) (fun h => absurd hF.1 h)
  refine W.widen (k := cells + 27) (n := slots + 315) (by omega) (by omega) ?_
  exact kk _ _ ⟨_, _, A, o, L1, g1, L2, g2, Rel_K hF.2 (by omega), hP2, hM2, rfl, rfl, n1, n2, a1, a2, dj, P1, P2, hS⟩
set_option maxHeartbeats 1000000 in
theorem lc_takeHome {p : Program} {l : Launch} {e : Env} {s : State} {m : MethodId} {below : List Frame} {meth : Method} {c : Code} {b L : Nat} {xs : Nat → Int32} {k : gK} (hL : L ≤ 2048) (C0 : lw_At p s m meth c b L xs) (C : gC k p s m #[Value.ref b] meth c cL_law RL 4 wsL_law) (hAO : va_AO RX5 s) {h1 o0 K i cells slots : Nat} {H : Heap} {locs : List Loc} {ls : Array Slot} (hI : LI s k h1 o0 K H locs) (hK : K < 2 ^ 31) (hl : lv_has ls 4 (lwl b h1 o0 i)) (hi : i + 4 ≤ L) (hc1 : cells + 27 ≤ 600000) (hc2 : slots + 315 ≤ 7302249) (kk : ∀ H2 locs2, LI s k h1 o0 (K + 1600) H2 locs2 → W p l e room_1 s m #[Value.ref b] below meth c H2 locs2 (cells + 27) (slots + 315) (lw_Z below #[Value.ref b] s) (F0 m 894 ls [])) : W p l e room_1 s m #[Value.ref b] below meth c H locs cells slots (lw_Z below #[Value.ref b] s) (F0 m 450 ls []) := by
  obtain ⟨q, y, A, o, L1, f1, L2, f2, hR, hP, hM, rfl, rfl, n1, n2, a1, a2, dj, P1, P2, hS⟩ := hI
  obtain ⟨hx, hb, hr, hml, hown, hts, hX, hbl, hlocks, hgv⟩ := id C0
  obtain ⟨gH, gN, gK, gM, gQ, gP⟩ := Rel_H hR
  have dj2 : ∀ a ∈ L2, a ∉ L1 := fun a ha hm => dj a hm ha
  have hz : cells ≤ room_1.cells ∧ slots ≤ room_1.slots := ⟨show cells ≤ 600000 by omega, show slots ≤ 7302249 by omega⟩
  refine lv_aload_n hx hb dL_law_450 rfl (lv_at hl 1 rfl) ?_
  refine lw_arg hL C0 hS hl 1 (by omega) rfl dL_law_451 dL_law_452 dL_law_453 dL_law_454 dL_law_455 ?_
  refine lw_callM (x := vX6_takeHome q (xs (i + 1))) C a1 dj2 P1 P2 hS hl (k_X6_takeHome l n1 hP gH gN (xs (i + 1))) (fun _ _ h => by obtain ⟨h1, _⟩ := h; exact h1) (isPN_in hP 0 (by decide)) (isPN_0 hP) rfl (cwV 1 C.2.2.2.2.1 gL_law_X6_takeHome rfl rfl rfl kdV_X6_takeHome ⟨Nat.le_of_ble_eq_true rfl, Nat.le_of_ble_eq_true rfl⟩) rfl rfl (Nat.le_of_ble_eq_true rfl) hz dL_law_456 (fun v g1 H1 locs1 hp P1 P2 hS => ?_)
  obtain ⟨-, hP2⟩ := hp
  refine lv_aload_n hx hb dL_law_459 rfl (lv_at hl 2 rfl) ?_
  refine lw_arg hL C0 hS hl 1 (by omega) rfl dL_law_460 dL_law_461 dL_law_462 dL_law_463 dL_law_464 ?_
  refine lw_callM (x := vX7_takeHome y (xs (i + 1))) C a2 dj P2 P1 hS hl (k_X7_takeHome l n2 hM gM gK gP (xs (i + 1))) (fun _ _ h => by obtain ⟨h1, _⟩ := h; exact h1) (isMS_in hM 0 (by decide)) (isMS_0 hM) rfl (cwV 1 C.2.2.2.2.1 gL_law_X7_takeHome rfl rfl rfl kdV_X7_takeHome ⟨Nat.le_of_ble_eq_true rfl, Nat.le_of_ble_eq_true rfl⟩) rfl rfl (Nat.le_of_ble_eq_true rfl) hz dL_law_465 (fun v2 g2 H2 locs2 hp2 P2 P1 hS => ?_)
  obtain ⟨-, hM2, -⟩ := hp2
  have hF := R_takeHome hR (xs (i + 1))
  refine lv_icmp_eq (tgt := 894) hx hb dL_law_468 (by decide) (fun _ => ?_) (fun h => absurd hF.1 h)
  refine W.widen (k := cells + 27) (n := slots + 315) (by omega) (by omega) ?_
  exact kk _ _ ⟨_, _, A, o, L1, g1, L2, g2, Rel_K hF.2 (by omega), hP2, hM2, rfl, rfl, n1, n2, a1, a2, dj, P1, P2, hS⟩
set_option maxHeartbeats 1000000 in
theorem lc_pass {p : Program} {l : Launch} {e : Env} {s : State} {m : MethodId} {below : List Frame} {meth : Method} {c : Code} {b L : Nat} {xs : Nat → Int32} {k : gK} (hL : L ≤ 2048) (C0 : lw_At p s m meth c b L xs) (C : gC k p s m #[Value.ref b] meth c cL_law RL 4 wsL_law) (hAO : va_AO RX5 s) {h1 o0 K i cells slots : Nat} {H : Heap} {locs : List Loc} {ls : Array Slot} (hI : LI s k h1 o0 K H locs) (hK : K < 2 ^ 31) (hl : lv_has ls 4 (lwl b h1 o0 i)) (hi : i + 4 ≤ L) (hc1 : cells + 27 ≤ 600000) (hc2 : slots + 315 ≤ 7302249) (kk : ∀ H2 locs2, LI s k h1 o0 (K + 1600) H2 locs2 → W p l e room_1 s m #[Value.ref b] below meth c H2 locs2 (cells + 27) (slots + 315) (lw_Z below #[Value.ref b] s) (F0 m 894 ls [])) : W p l e room_1 s m #[Value.ref b] below meth c H locs cells slots (lw_Z below #[Value.ref b] s) (F0 m 473 ls []) := by
  obtain ⟨q, y, A, o, L1, f1, L2, f2, hR, hP, hM, rfl, rfl, n1, n2, a1, a2, dj, P1, P2, hS⟩ := hI
  obtain ⟨hx, hb, hr, hml, hown, hts, hX, hbl, hlocks, hgv⟩ := id C0
  obtain ⟨gH, gN, gK, gM, gQ, gP⟩ := Rel_H hR
  have dj2 : ∀ a ∈ L2, a ∉ L1 := fun a ha hm => dj a hm ha
  have hz : cells ≤ room_1.cells ∧ slots ≤ room_1.slots := ⟨show cells ≤ 600000 by omega, show slots ≤ 7302249 by omega⟩
  refine lv_aload_n hx hb dL_law_473 rfl (lv_at hl 1 rfl) ?_
  refine lw_arg hL C0 hS hl 1 (by omega) rfl dL_law_474 dL_law_475 dL_law_476 dL_law_477 dL_law_478 ?_
  refine lw_callM (x := vX6_pass q (xs (i + 1))) C a1 dj2 P1 P2 hS hl (k_X6_pass l n1 hP gH gN (xs (i + 1))) (fun _ _ h => by obtain ⟨h1, _⟩ := h; exact h1) (isPN_in hP 0 (by decide)) (isPN_0 hP) rfl (cwV 1 C.2.2.2.2.1 gL_law_X6_pass rfl rfl rfl kdV_X6_pass ⟨Nat.le_of_ble_eq_true rfl, Nat.le_of_ble_eq_true rfl⟩) rfl rfl (Nat.le_of_ble_eq_true rfl) hz dL_law_479 (fun v g1 H1 locs1 hp P1 P2 hS => ?_)
  obtain ⟨-, hP2⟩ := hp
  refine lv_aload_n hx hb dL_law_482 rfl (lv_at hl 2 rfl) ?_
  refine lw_arg hL C0 hS hl 1 (by omega) rfl dL_law_483 dL_law_484 dL_law_485 dL_law_486 dL_law_487 ?_
  refine lw_callM (x := vX7_pass y (xs (i + 1))) C a2 dj P2 P1 hS hl (k_X7_pass l n2 hM gM gK (xs (i + 1))) (fun _ _ h => by obtain ⟨h1, _⟩ := h; exact h1) (isMS_in hM 0 (by decide)) (isMS_0 hM) rfl (cwV 1 C.2.2.2.2.1 gL_law_X7_pass rfl rfl rfl kdV_X7_pass ⟨Nat.le_of_ble_eq_true rfl, Nat.le_of_ble_eq_true rfl⟩) rfl rfl (Nat.le_of_ble_eq_true rfl) hz dL_law_488 (fun v2 g2 H2 locs2 hp2 P2 P1 hS => ?_)
  obtain ⟨-, hM2, -⟩ := hp2
  have hF := R_pass hR (xs (i + 1))
  refine lv_icmp_eq (tgt := 894) hx hb dL_law_491 (by decide) (fun _ => ?_) (fun h => absurd hF.1 h)
  refine W.widen (k := cells + 27) (n := slots + 315) (by omega) (by omega) ?_
  exact kk _ _ ⟨_, _, A, o, L1, g1, L2, g2, Rel_K hF.2 (by omega), hP2, hM2, rfl, rfl, n1, n2, a1, a2, dj, P1, P2, hS⟩
set_option maxHeartbeats 1000000 in
theorem lc_of {p : Program} {l : Launch} {e : Env} {s : State} {m : MethodId} {below : List Frame} {meth : Method} {c : Code} {b L : Nat} {xs : Nat → Int32} {k : gK} (hL : L ≤ 2048) (C0 : lw_At p s m meth c b L xs) (C : gC k p s m #[Value.ref b] meth c cL_law RL 4 wsL_law) (hAO : va_AO RX5 s) {h1 o0 K i cells slots : Nat} {H : Heap} {locs : List Loc} {ls : Array Slot} (hI : LI s k h1 o0 K H locs) (hK : K < 2 ^ 31) (hl : lv_has ls 4 (lwl b h1 o0 i)) (hi : i + 4 ≤ L) (hc1 : cells + 27 ≤ 600000) (hc2 : slots + 315 ≤ 7302249) (kk : ∀ H2 locs2, LI s k h1 o0 (K + 1600) H2 locs2 → W p l e room_1 s m #[Value.ref b] below meth c H2 locs2 (cells + 27) (slots + 315) (lw_Z below #[Value.ref b] s) (F0 m 894 ls [])) : W p l e room_1 s m #[Value.ref b] below meth c H locs cells slots (lw_Z below #[Value.ref b] s) (F0 m 496 ls []) := by
  obtain ⟨q, y, A, o, L1, f1, L2, f2, hR, hP, hM, rfl, rfl, n1, n2, a1, a2, dj, P1, P2, hS⟩ := hI
  obtain ⟨hx, hb, hr, hml, hown, hts, hX, hbl, hlocks, hgv⟩ := id C0
  obtain ⟨gH, gN, gK, gM, gQ, gP⟩ := Rel_H hR
  have dj2 : ∀ a ∈ L2, a ∉ L1 := fun a ha hm => dj a hm ha
  have hz : cells ≤ room_1.cells ∧ slots ≤ room_1.slots := ⟨show cells ≤ 600000 by omega, show slots ≤ 7302249 by omega⟩
  refine lv_aload_n hx hb dL_law_496 rfl (lv_at hl 1 rfl) ?_
  refine lw_arg hL C0 hS hl 1 (by omega) rfl dL_law_497 dL_law_498 dL_law_499 dL_law_500 dL_law_501 ?_
  refine lw_arg hL C0 hS hl 2 (by omega) rfl dL_law_502 dL_law_503 dL_law_504 dL_law_505 dL_law_506 ?_
  refine lw_callR C P1 hl (k_X6_of l hP gN (xs (i + 1)) (xs (i + 2))) (isPN_in hP 0 (by decide)) (isPN_0 hP) rfl (cwV 2 C.2.2.2.2.1 gL_law_X6_of rfl rfl rfl kdV_X6_of ⟨Nat.le_of_ble_eq_true rfl, Nat.le_of_ble_eq_true rfl⟩) rfl rfl (Nat.le_of_ble_eq_true rfl) hz dL_law_507 ?_
  refine lv_aload_n hx hb dL_law_510 rfl (lv_at hl 2 rfl) ?_
  refine lw_arg hL C0 hS hl 1 (by omega) rfl dL_law_511 dL_law_512 dL_law_513 dL_law_514 dL_law_515 ?_
  refine lw_arg hL C0 hS hl 2 (by omega) rfl dL_law_516 dL_law_517 dL_law_518 dL_law_519 dL_law_520 ?_
  refine lw_callR C P2 hl (k_X7_of l hM gM (xs (i + 1)) (xs (i + 2))) (isMS_in hM 0 (by decide)) (isMS_0 hM) rfl (cwV 2 C.2.2.2.2.1 gL_law_X7_of rfl rfl rfl kdV_X7_of ⟨Nat.le_of_ble_eq_true rfl, Nat.le_of_ble_eq_true rfl⟩) rfl rfl (Nat.le_of_ble_eq_true rfl) hz dL_law_521 ?_
  have hF : vX6_of q (xs (i + 1)) (xs (i + 2)) = vX7_of y (xs (i + 1)) (xs (i + 2)) := Q_of (R_wr hR) hK (xs (i + 1)) (xs (i + 2))
  refine lv_icmp_eq (tgt := 894) hx hb dL_law_524 (by decide) (fun _ => ?_) (fun h => absurd hF h)
  refine W.widen (k := cells + 27) (n := slots + 315) (by omega) (by omega) ?_
  exact kk _ _ ⟨q, y, A, o, L1, f1, L2, f2, Rel_K hR (by omega), hP, hM, rfl, rfl, n1, n2, a1, a2, dj, P1, P2, hS⟩
set_option maxHeartbeats 1000000 in
theorem lc_ofPupil {p : Program} {l : Launch} {e : Env} {s : State} {m : MethodId} {below : List Frame} {meth : Method} {c : Code} {b L : Nat} {xs : Nat → Int32} {k : gK} (hL : L ≤ 2048) (C0 : lw_At p s m meth c b L xs) (C : gC k p s m #[Value.ref b] meth c cL_law RL 4 wsL_law) (hAO : va_AO RX5 s) {h1 o0 K i cells slots : Nat} {H : Heap} {locs : List Loc} {ls : Array Slot} (hI : LI s k h1 o0 K H locs) (hK : K < 2 ^ 31) (hl : lv_has ls 4 (lwl b h1 o0 i)) (hi : i + 4 ≤ L) (hc1 : cells + 27 ≤ 600000) (hc2 : slots + 315 ≤ 7302249) (kk : ∀ H2 locs2, LI s k h1 o0 (K + 1600) H2 locs2 → W p l e room_1 s m #[Value.ref b] below meth c H2 locs2 (cells + 27) (slots + 315) (lw_Z below #[Value.ref b] s) (F0 m 894 ls [])) : W p l e room_1 s m #[Value.ref b] below meth c H locs cells slots (lw_Z below #[Value.ref b] s) (F0 m 529 ls []) := by
  obtain ⟨q, y, A, o, L1, f1, L2, f2, hR, hP, hM, rfl, rfl, n1, n2, a1, a2, dj, P1, P2, hS⟩ := hI
  obtain ⟨hx, hb, hr, hml, hown, hts, hX, hbl, hlocks, hgv⟩ := id C0
  obtain ⟨gH, gN, gK, gM, gQ, gP⟩ := Rel_H hR
  have dj2 : ∀ a ∈ L2, a ∉ L1 := fun a ha hm => dj a hm ha
  have hz : cells ≤ room_1.cells ∧ slots ≤ room_1.slots := ⟨show cells ≤ 600000 by omega, show slots ≤ 7302249 by omega⟩
  refine lv_aload_n hx hb dL_law_529 rfl (lv_at hl 1 rfl) ?_
  refine lw_arg hL C0 hS hl 1 (by omega) rfl dL_law_530 dL_law_531 dL_law_532 dL_law_533 dL_law_534 ?_
  refine lw_arg hL C0 hS hl 2 (by omega) rfl dL_law_535 dL_law_536 dL_law_537 dL_law_538 dL_law_539 ?_
  refine lw_callR C P1 hl (k_X6_ofPupil l hP gN (xs (i + 1)) (xs (i + 2))) (isPN_in hP 0 (by decide)) (isPN_0 hP) rfl (cwV 2 C.2.2.2.2.1 gL_law_X6_ofPupil rfl rfl rfl kdV_X6_ofPupil ⟨Nat.le_of_ble_eq_true rfl, Nat.le_of_ble_eq_true rfl⟩) rfl rfl (Nat.le_of_ble_eq_true rfl) hz dL_law_540 ?_
  refine lv_aload_n hx hb dL_law_543 rfl (lv_at hl 2 rfl) ?_
  refine lw_arg hL C0 hS hl 1 (by omega) rfl dL_law_544 dL_law_545 dL_law_546 dL_law_547 dL_law_548 ?_
  refine lw_arg hL C0 hS hl 2 (by omega) rfl dL_law_549 dL_law_550 dL_law_551 dL_law_552 dL_law_553 ?_
  refine lw_callR C P2 hl (k_X7_ofPupil l hM gM gQ (xs (i + 1)) (xs (i + 2))) (isMS_in hM 0 (by decide)) (isMS_0 hM) rfl (cwV 2 C.2.2.2.2.1 gL_law_X7_ofPupil rfl rfl rfl kdV_X7_ofPupil ⟨Nat.le_of_ble_eq_true rfl, Nat.le_of_ble_eq_true rfl⟩) rfl rfl (Nat.le_of_ble_eq_true rfl) hz dL_law_554 ?_
  have hF : vX6_ofPupil q (xs (i + 1)) (xs (i + 2)) = vX7_ofPupil y (xs (i + 1)) (xs (i + 2)) := Q_ofPupil (R_wr hR) (xs (i + 1)) (xs (i + 2))
  refine lv_icmp_eq (tgt := 894) hx hb dL_law_557 (by decide) (fun _ => ?_) (fun h => absurd hF h)
  refine W.widen (k := cells + 27) (n := slots + 315) (by omega) (by omega) ?_
  exact kk _ _ ⟨q, y, A, o, L1, f1, L2, f2, Rel_K hR (by omega), hP, hM, rfl, rfl, n1, n2, a1, a2, dj, P1, P2, hS⟩
set_option maxHeartbeats 1000000 in
theorem lc_booked {p : Program} {l : Launch} {e : Env} {s : State} {m : MethodId} {below : List Frame} {meth : Method} {c : Code} {b L : Nat} {xs : Nat → Int32} {k : gK} (hL : L ≤ 2048) (C0 : lw_At p s m meth c b L xs) (C : gC k p s m #[Value.ref b] meth c cL_law RL 4 wsL_law) (hAO : va_AO RX5 s) {h1 o0 K i cells slots : Nat} {H : Heap} {locs : List Loc} {ls : Array Slot} (hI : LI s k h1 o0 K H locs) (hK : K < 2 ^ 31) (hl : lv_has ls 4 (lwl b h1 o0 i)) (hi : i + 4 ≤ L) (hc1 : cells + 27 ≤ 600000) (hc2 : slots + 315 ≤ 7302249) (kk : ∀ H2 locs2, LI s k h1 o0 (K + 1600) H2 locs2 → W p l e room_1 s m #[Value.ref b] below meth c H2 locs2 (cells + 27) (slots + 315) (lw_Z below #[Value.ref b] s) (F0 m 894 ls [])) : W p l e room_1 s m #[Value.ref b] below meth c H locs cells slots (lw_Z below #[Value.ref b] s) (F0 m 562 ls []) := by
  obtain ⟨q, y, A, o, L1, f1, L2, f2, hR, hP, hM, rfl, rfl, n1, n2, a1, a2, dj, P1, P2, hS⟩ := hI
  obtain ⟨hx, hb, hr, hml, hown, hts, hX, hbl, hlocks, hgv⟩ := id C0
  obtain ⟨gH, gN, gK, gM, gQ, gP⟩ := Rel_H hR
  have dj2 : ∀ a ∈ L2, a ∉ L1 := fun a ha hm => dj a hm ha
  have hz : cells ≤ room_1.cells ∧ slots ≤ room_1.slots := ⟨show cells ≤ 600000 by omega, show slots ≤ 7302249 by omega⟩
  refine lv_aload_n hx hb dL_law_562 rfl (lv_at hl 1 rfl) ?_
  refine lw_arg hL C0 hS hl 1 (by omega) rfl dL_law_563 dL_law_564 dL_law_565 dL_law_566 dL_law_567 ?_
  refine lw_arg hL C0 hS hl 2 (by omega) rfl dL_law_568 dL_law_569 dL_law_570 dL_law_571 dL_law_572 ?_
  refine lw_callR C P1 hl (k_X6_booked l hP gN (xs (i + 1)) (xs (i + 2))) (isPN_in hP 0 (by decide)) (isPN_0 hP) rfl (cwV 2 C.2.2.2.2.1 gL_law_X6_booked rfl rfl rfl kdV_X6_booked ⟨Nat.le_of_ble_eq_true rfl, Nat.le_of_ble_eq_true rfl⟩) rfl rfl (Nat.le_of_ble_eq_true rfl) hz dL_law_573 ?_
  refine lv_aload_n hx hb dL_law_576 rfl (lv_at hl 2 rfl) ?_
  refine lw_arg hL C0 hS hl 1 (by omega) rfl dL_law_577 dL_law_578 dL_law_579 dL_law_580 dL_law_581 ?_
  refine lw_arg hL C0 hS hl 2 (by omega) rfl dL_law_582 dL_law_583 dL_law_584 dL_law_585 dL_law_586 ?_
  refine lw_callR C P2 hl (k_X7_booked l hM (xs (i + 1)) (xs (i + 2))) (isMS_in hM 0 (by decide)) (isMS_0 hM) rfl (cwV 2 C.2.2.2.2.1 gL_law_X7_booked rfl rfl rfl kdV_X7_booked ⟨Nat.le_of_ble_eq_true rfl, Nat.le_of_ble_eq_true rfl⟩) rfl rfl (Nat.le_of_ble_eq_true rfl) hz dL_law_587 ?_
  have hF : vX6_booked q (xs (i + 1)) (xs (i + 2)) = vX7_booked y (xs (i + 1)) (xs (i + 2)) := Q_booked (R_wr hR) (xs (i + 1)) (xs (i + 2))
  refine lv_icmp_eq (tgt := 894) hx hb dL_law_590 (by decide) (fun _ => ?_) (fun h => absurd hF h)
  refine W.widen (k := cells + 27) (n := slots + 315) (by omega) (by omega) ?_
  exact kk _ _ ⟨q, y, A, o, L1, f1, L2, f2, Rel_K hR (by omega), hP, hM, rfl, rfl, n1, n2, a1, a2, dj, P1, P2, hS⟩
set_option maxHeartbeats 1000000 in
theorem lc_count {p : Program} {l : Launch} {e : Env} {s : State} {m : MethodId} {below : List Frame} {meth : Method} {c : Code} {b L : Nat} {xs : Nat → Int32} {k : gK} (hL : L ≤ 2048) (C0 : lw_At p s m meth c b L xs) (C : gC k p s m #[Value.ref b] meth c cL_law RL 4 wsL_law) (hAO : va_AO RX5 s) {h1 o0 K i cells slots : Nat} {H : Heap} {locs : List Loc} {ls : Array Slot} (hI : LI s k h1 o0 K H locs) (hK : K < 2 ^ 31) (hl : lv_has ls 4 (lwl b h1 o0 i)) (hi : i + 4 ≤ L) (hc1 : cells + 27 ≤ 600000) (hc2 : slots + 315 ≤ 7302249) (kk : ∀ H2 locs2, LI s k h1 o0 (K + 1600) H2 locs2 → W p l e room_1 s m #[Value.ref b] below meth c H2 locs2 (cells + 27) (slots + 315) (lw_Z below #[Value.ref b] s) (F0 m 894 ls [])) : W p l e room_1 s m #[Value.ref b] below meth c H locs cells slots (lw_Z below #[Value.ref b] s) (F0 m 595 ls []) := by
  obtain ⟨q, y, A, o, L1, f1, L2, f2, hR, hP, hM, rfl, rfl, n1, n2, a1, a2, dj, P1, P2, hS⟩ := hI
  obtain ⟨hx, hb, hr, hml, hown, hts, hX, hbl, hlocks, hgv⟩ := id C0
  obtain ⟨gH, gN, gK, gM, gQ, gP⟩ := Rel_H hR
  have dj2 : ∀ a ∈ L2, a ∉ L1 := fun a ha hm => dj a hm ha
  have hz : cells ≤ room_1.cells ∧ slots ≤ room_1.slots := ⟨show cells ≤ 600000 by omega, show slots ≤ 7302249 by omega⟩
  refine lv_aload_n hx hb dL_law_595 rfl (lv_at hl 1 rfl) ?_
  refine lw_arg hL C0 hS hl 1 (by omega) rfl dL_law_596 dL_law_597 dL_law_598 dL_law_599 dL_law_600 ?_
  refine lw_callR C P1 hl (k_X6_count l hP gN (xs (i + 1))) (isPN_in hP 0 (by decide)) (isPN_0 hP) rfl (cwV 1 C.2.2.2.2.1 gL_law_X6_count rfl rfl rfl kdV_X6_count ⟨Nat.le_of_ble_eq_true rfl, Nat.le_of_ble_eq_true rfl⟩) rfl rfl (Nat.le_of_ble_eq_true rfl) hz dL_law_601 ?_
  refine lv_aload_n hx hb dL_law_604 rfl (lv_at hl 2 rfl) ?_
  refine lw_arg hL C0 hS hl 1 (by omega) rfl dL_law_605 dL_law_606 dL_law_607 dL_law_608 dL_law_609 ?_
  refine lw_callR C P2 hl (k_X7_count l hM gM (xs (i + 1))) (isMS_in hM 0 (by decide)) (isMS_0 hM) rfl (cwV 1 C.2.2.2.2.1 gL_law_X7_count rfl rfl rfl kdV_X7_count ⟨Nat.le_of_ble_eq_true rfl, Nat.le_of_ble_eq_true rfl⟩) rfl rfl (Nat.le_of_ble_eq_true rfl) hz dL_law_610 ?_
  have hF : vX6_count q (xs (i + 1)) = vX7_count y (xs (i + 1)) := R_count hR (xs (i + 1))
  refine lv_icmp_eq (tgt := 894) hx hb dL_law_613 (by decide) (fun _ => ?_) (fun h => absurd hF h)
  refine W.widen (k := cells + 27) (n := slots + 315) (by omega) (by omega) ?_
  exact kk _ _ ⟨q, y, A, o, L1, f1, L2, f2, Rel_K hR (by omega), hP, hM, rfl, rfl, n1, n2, a1, a2, dj, P1, P2, hS⟩
set_option maxHeartbeats 1000000 in
theorem lc_why {p : Program} {l : Launch} {e : Env} {s : State} {m : MethodId} {below : List Frame} {meth : Method} {c : Code} {b L : Nat} {xs : Nat → Int32} {k : gK} (hL : L ≤ 2048) (C0 : lw_At p s m meth c b L xs) (C : gC k p s m #[Value.ref b] meth c cL_law RL 4 wsL_law) (hAO : va_AO RX5 s) {h1 o0 K i cells slots : Nat} {H : Heap} {locs : List Loc} {ls : Array Slot} (hI : LI s k h1 o0 K H locs) (hK : K < 2 ^ 31) (hl : lv_has ls 4 (lwl b h1 o0 i)) (hi : i + 4 ≤ L) (hc1 : cells + 27 ≤ 600000) (hc2 : slots + 315 ≤ 7302249) (kk : ∀ H2 locs2, LI s k h1 o0 (K + 1600) H2 locs2 → W p l e room_1 s m #[Value.ref b] below meth c H2 locs2 (cells + 27) (slots + 315) (lw_Z below #[Value.ref b] s) (F0 m 894 ls [])) : W p l e room_1 s m #[Value.ref b] below meth c H locs cells slots (lw_Z below #[Value.ref b] s) (F0 m 618 ls []) := by
  obtain ⟨q, y, A, o, L1, f1, L2, f2, hR, hP, hM, rfl, rfl, n1, n2, a1, a2, dj, P1, P2, hS⟩ := hI
  obtain ⟨hx, hb, hr, hml, hown, hts, hX, hbl, hlocks, hgv⟩ := id C0
  obtain ⟨gH, gN, gK, gM, gQ, gP⟩ := Rel_H hR
  have dj2 : ∀ a ∈ L2, a ∉ L1 := fun a ha hm => dj a hm ha
  have hz : cells ≤ room_1.cells ∧ slots ≤ room_1.slots := ⟨show cells ≤ 600000 by omega, show slots ≤ 7302249 by omega⟩
  refine lv_aload_n hx hb dL_law_618 rfl (lv_at hl 1 rfl) ?_
  refine lw_arg hL C0 hS hl 1 (by omega) rfl dL_law_619 dL_law_620 dL_law_621 dL_law_622 dL_law_623 ?_
  refine lw_callR C P1 hl (k_X6_why l hP gN (xs (i + 1))) (isPN_in hP 0 (by decide)) (isPN_0 hP) rfl (cwV 1 C.2.2.2.2.1 gL_law_X6_why rfl rfl rfl kdV_X6_why ⟨Nat.le_of_ble_eq_true rfl, Nat.le_of_ble_eq_true rfl⟩) rfl rfl (Nat.le_of_ble_eq_true rfl) hz dL_law_624 ?_
  refine lv_aload_n hx hb dL_law_627 rfl (lv_at hl 2 rfl) ?_
  refine lw_arg hL C0 hS hl 1 (by omega) rfl dL_law_628 dL_law_629 dL_law_630 dL_law_631 dL_law_632 ?_
  refine lw_callR C P2 hl (k_X7_why l hM gM (xs (i + 1))) (isMS_in hM 0 (by decide)) (isMS_0 hM) rfl (cwV 1 C.2.2.2.2.1 gL_law_X7_why rfl rfl rfl kdV_X7_why ⟨Nat.le_of_ble_eq_true rfl, Nat.le_of_ble_eq_true rfl⟩) rfl rfl (Nat.le_of_ble_eq_true rfl) hz dL_law_633 ?_
  have hF : vX6_why q (xs (i + 1)) = vX7_why y (xs (i + 1)) := Q_why (R_wr hR) (xs (i + 1))
  refine lv_icmp_eq (tgt := 894) hx hb dL_law_636 (by decide) (fun _ => ?_) (fun h => absurd hF h)
  refine W.widen (k := cells + 27) (n := slots + 315) (by omega) (by omega) ?_
  exact kk _ _ ⟨q, y, A, o, L1, f1, L2, f2, Rel_K hR (by omega), hP, hM, rfl, rfl, n1, n2, a1, a2, dj, P1, P2, hS⟩
set_option maxHeartbeats 1000000 in
theorem lc_dryIn {p : Program} {l : Launch} {e : Env} {s : State} {m : MethodId} {below : List Frame} {meth : Method} {c : Code} {b L : Nat} {xs : Nat → Int32} {k : gK} (hL : L ≤ 2048) (C0 : lw_At p s m meth c b L xs) (C : gC k p s m #[Value.ref b] meth c cL_law RL 4 wsL_law) (hAO : va_AO RX5 s) {h1 o0 K i cells slots : Nat} {H : Heap} {locs : List Loc} {ls : Array Slot} (hI : LI s k h1 o0 K H locs) (hK : K < 2 ^ 31) (hl : lv_has ls 4 (lwl b h1 o0 i)) (hi : i + 4 ≤ L) (hc1 : cells + 27 ≤ 600000) (hc2 : slots + 315 ≤ 7302249) (kk : ∀ H2 locs2, LI s k h1 o0 (K + 1600) H2 locs2 → W p l e room_1 s m #[Value.ref b] below meth c H2 locs2 (cells + 27) (slots + 315) (lw_Z below #[Value.ref b] s) (F0 m 894 ls [])) : W p l e room_1 s m #[Value.ref b] below meth c H locs cells slots (lw_Z below #[Value.ref b] s) (F0 m 641 ls []) := by
  obtain ⟨q, y, A, o, L1, f1, L2, f2, hR, hP, hM, rfl, rfl, n1, n2, a1, a2, dj, P1, P2, hS⟩ := hI
  obtain ⟨hx, hb, hr, hml, hown, hts, hX, hbl, hlocks, hgv⟩ := id C0
  obtain ⟨gH, gN, gK, gM, gQ, gP⟩ := Rel_H hR
  have dj2 : ∀ a ∈ L2, a ∉ L1 := fun a ha hm => dj a hm ha
  have hz : cells ≤ room_1.cells ∧ slots ≤ room_1.slots := ⟨show cells ≤ 600000 by omega, show slots ≤ 7302249 by omega⟩
  refine lv_aload_n hx hb dL_law_641 rfl (lv_at hl 1 rfl) ?_
  refine lw_arg hL C0 hS hl 1 (by omega) rfl dL_law_642 dL_law_643 dL_law_644 dL_law_645 dL_law_646 ?_
  refine lw_callR C P1 hl (k_X6_dryIn l hP gN (xs (i + 1))) (isPN_in hP 0 (by decide)) (isPN_0 hP) rfl (cwV 1 C.2.2.2.2.1 gL_law_X6_dryIn rfl rfl rfl kdV_X6_dryIn ⟨Nat.le_of_ble_eq_true rfl, Nat.le_of_ble_eq_true rfl⟩) rfl rfl (Nat.le_of_ble_eq_true rfl) hz dL_law_647 ?_
  refine lv_aload_n hx hb dL_law_650 rfl (lv_at hl 2 rfl) ?_
  refine lw_arg hL C0 hS hl 1 (by omega) rfl dL_law_651 dL_law_652 dL_law_653 dL_law_654 dL_law_655 ?_
  refine lw_callR C P2 hl (k_X7_dryIn l hM gM (xs (i + 1))) (isMS_in hM 0 (by decide)) (isMS_0 hM) rfl (cwV 1 C.2.2.2.2.1 gL_law_X7_dryIn rfl rfl rfl kdV_X7_dryIn ⟨Nat.le_of_ble_eq_true rfl, Nat.le_of_ble_eq_true rfl⟩) rfl rfl (Nat.le_of_ble_eq_true rfl) hz dL_law_656 ?_
  have hF : vX6_dryIn q (xs (i + 1)) = vX7_dryIn y (xs (i + 1)) := Q_dryIn (R_wr hR) (xs (i + 1))
  refine lv_icmp_eq (tgt := 894) hx hb dL_law_659 (by decide) (fun _ => ?_) (fun h => absurd hF h)
  refine W.widen (k := cells + 27) (n := slots + 315) (by omega) (by omega) ?_
  exact kk _ _ ⟨q, y, A, o, L1, f1, L2, f2, Rel_K hR (by omega), hP, hM, rfl, rfl, n1, n2, a1, a2, dj, P1, P2, hS⟩
set_option maxHeartbeats 1000000 in
theorem lc_ifFired {p : Program} {l : Launch} {e : Env} {s : State} {m : MethodId} {below : List Frame} {meth : Method} {c : Code} {b L : Nat} {xs : Nat → Int32} {k : gK} (hL : L ≤ 2048) (C0 : lw_At p s m meth c b L xs) (C : gC k p s m #[Value.ref b] meth c cL_law RL 4 wsL_law) (hAO : va_AO RX5 s) {h1 o0 K i cells slots : Nat} {H : Heap} {locs : List Loc} {ls : Array Slot} (hI : LI s k h1 o0 K H locs) (hK : K < 2 ^ 31) (hl : lv_has ls 4 (lwl b h1 o0 i)) (hi : i + 4 ≤ L) (hc1 : cells + 27 ≤ 600000) (hc2 : slots + 315 ≤ 7302249) (kk : ∀ H2 locs2, LI s k h1 o0 (K + 1600) H2 locs2 → W p l e room_1 s m #[Value.ref b] below meth c H2 locs2 (cells + 27) (slots + 315) (lw_Z below #[Value.ref b] s) (F0 m 894 ls [])) : W p l e room_1 s m #[Value.ref b] below meth c H locs cells slots (lw_Z below #[Value.ref b] s) (F0 m 664 ls []) := by
  obtain ⟨q, y, A, o, L1, f1, L2, f2, hR, hP, hM, rfl, rfl, n1, n2, a1, a2, dj, P1, P2, hS⟩ := hI
  obtain ⟨hx, hb, hr, hml, hown, hts, hX, hbl, hlocks, hgv⟩ := id C0
  obtain ⟨gH, gN, gK, gM, gQ, gP⟩ := Rel_H hR
  have dj2 : ∀ a ∈ L2, a ∉ L1 := fun a ha hm => dj a hm ha
  have hz : cells ≤ room_1.cells ∧ slots ≤ room_1.slots := ⟨show cells ≤ 600000 by omega, show slots ≤ 7302249 by omega⟩
  refine lv_aload_n hx hb dL_law_664 rfl (lv_at hl 1 rfl) ?_
  refine lw_arg hL C0 hS hl 1 (by omega) rfl dL_law_665 dL_law_666 dL_law_667 dL_law_668 dL_law_669 ?_
  refine lw_arg hL C0 hS hl 2 (by omega) rfl dL_law_670 dL_law_671 dL_law_672 dL_law_673 dL_law_674 ?_
  refine lw_callR C P1 hl (k_X6_ifFired l hP gN (xs (i + 1)) (xs (i + 2))) (isPN_in hP 0 (by decide)) (isPN_0 hP) rfl (cwV 2 C.2.2.2.2.1 gL_law_X6_ifFired rfl rfl rfl kdV_X6_ifFired ⟨Nat.le_of_ble_eq_true rfl, Nat.le_of_ble_eq_true rfl⟩) rfl rfl (Nat.le_of_ble_eq_true rfl) hz dL_law_675 ?_
  refine lv_aload_n hx hb dL_law_678 rfl (lv_at hl 2 rfl) ?_
  refine lw_arg hL C0 hS hl 1 (by omega) rfl dL_law_679 dL_law_680 dL_law_681 dL_law_682 dL_law_683 ?_
  refine lw_arg hL C0 hS hl 2 (by omega) rfl dL_law_684 dL_law_685 dL_law_686 dL_law_687 dL_law_688 ?_
  refine lw_callR C P2 hl (k_X7_ifFired l hM gM (xs (i + 1)) (xs (i + 2))) (isMS_in hM 0 (by decide)) (isMS_0 hM) rfl (cwV 2 C.2.2.2.2.1 gL_law_X7_ifFired rfl rfl rfl kdV_X7_ifFired ⟨Nat.le_of_ble_eq_true rfl, Nat.le_of_ble_eq_true rfl⟩) rfl rfl (Nat.le_of_ble_eq_true rfl) hz dL_law_689 ?_
  have hF : vX6_ifFired q (xs (i + 1)) (xs (i + 2)) = vX7_ifFired y (xs (i + 1)) (xs (i + 2)) := Q_ifFired (R_wr hR) (xs (i + 1)) (xs (i + 2))
  refine lv_icmp_eq (tgt := 894) hx hb dL_law_692 (by decide) (fun _ => ?_) (fun h => absurd hF h)
  refine W.widen (k := cells + 27) (n := slots + 315) (by omega) (by omega) ?_
  exact kk _ _ ⟨q, y, A, o, L1, f1, L2, f2, Rel_K hR (by omega), hP, hM, rfl, rfl, n1, n2, a1, a2, dj, P1, P2, hS⟩
set_option maxHeartbeats 1000000 in
theorem lc_bestHeat {p : Program} {l : Launch} {e : Env} {s : State} {m : MethodId} {below : List Frame} {meth : Method} {c : Code} {b L : Nat} {xs : Nat → Int32} {k : gK} (hL : L ≤ 2048) (C0 : lw_At p s m meth c b L xs) (C : gC k p s m #[Value.ref b] meth c cL_law RL 4 wsL_law) (hAO : va_AO RX5 s) {h1 o0 K i cells slots : Nat} {H : Heap} {locs : List Loc} {ls : Array Slot} (hI : LI s k h1 o0 K H locs) (hK : K < 2 ^ 31) (hl : lv_has ls 4 (lwl b h1 o0 i)) (hi : i + 4 ≤ L) (hc1 : cells + 27 ≤ 600000) (hc2 : slots + 315 ≤ 7302249) (kk : ∀ H2 locs2, LI s k h1 o0 (K + 1600) H2 locs2 → W p l e room_1 s m #[Value.ref b] below meth c H2 locs2 (cells + 27) (slots + 315) (lw_Z below #[Value.ref b] s) (F0 m 894 ls [])) : W p l e room_1 s m #[Value.ref b] below meth c H locs cells slots (lw_Z below #[Value.ref b] s) (F0 m 697 ls []) := by
  obtain ⟨q, y, A, o, L1, f1, L2, f2, hR, hP, hM, rfl, rfl, n1, n2, a1, a2, dj, P1, P2, hS⟩ := hI
  obtain ⟨hx, hb, hr, hml, hown, hts, hX, hbl, hlocks, hgv⟩ := id C0
  obtain ⟨gH, gN, gK, gM, gQ, gP⟩ := Rel_H hR
  have dj2 : ∀ a ∈ L2, a ∉ L1 := fun a ha hm => dj a hm ha
  have hz : cells ≤ room_1.cells ∧ slots ≤ room_1.slots := ⟨show cells ≤ 600000 by omega, show slots ≤ 7302249 by omega⟩
  refine lv_aload_n hx hb dL_law_697 rfl (lv_at hl 1 rfl) ?_
  refine lw_callR C P1 hl (k_X6_bestHeat l hP gN) (isPN_in hP 0 (by decide)) (isPN_0 hP) rfl (cwV 0 C.2.2.2.2.1 gL_law_X6_bestHeat rfl rfl rfl kdV_X6_bestHeat ⟨Nat.le_of_ble_eq_true rfl, Nat.le_of_ble_eq_true rfl⟩) rfl rfl (Nat.le_of_ble_eq_true rfl) hz dL_law_698 ?_
  refine lv_aload_n hx hb dL_law_701 rfl (lv_at hl 2 rfl) ?_
  refine lw_callR C P2 hl (k_X7_bestHeat l hM gM) (isMS_in hM 0 (by decide)) (isMS_0 hM) rfl (cwV 0 C.2.2.2.2.1 gL_law_X7_bestHeat rfl rfl rfl kdV_X7_bestHeat ⟨Nat.le_of_ble_eq_true rfl, Nat.le_of_ble_eq_true rfl⟩) rfl rfl (Nat.le_of_ble_eq_true rfl) hz dL_law_702 ?_
  have hF : vX6_bestHeat q = zBestHeat y := (Q_bestHeat (R_wr hR)).trans (zBest_Z y).symm
  refine lv_icmp_eq (tgt := 894) hx hb dL_law_705 (by decide) (fun _ => ?_) (fun h => absurd hF h)
  refine W.widen (k := cells + 27) (n := slots + 315) (by omega) (by omega) ?_
  exact kk _ _ ⟨q, y, A, o, L1, f1, L2, f2, Rel_K hR (by omega), hP, hM, rfl, rfl, n1, n2, a1, a2, dj, P1, P2, hS⟩
set_option maxHeartbeats 1000000 in
theorem lc_firstFree {p : Program} {l : Launch} {e : Env} {s : State} {m : MethodId} {below : List Frame} {meth : Method} {c : Code} {b L : Nat} {xs : Nat → Int32} {k : gK} (hL : L ≤ 2048) (C0 : lw_At p s m meth c b L xs) (C : gC k p s m #[Value.ref b] meth c cL_law RL 4 wsL_law) (hAO : va_AO RX5 s) {h1 o0 K i cells slots : Nat} {H : Heap} {locs : List Loc} {ls : Array Slot} (hI : LI s k h1 o0 K H locs) (hK : K < 2 ^ 31) (hl : lv_has ls 4 (lwl b h1 o0 i)) (hi : i + 4 ≤ L) (hc1 : cells + 27 ≤ 600000) (hc2 : slots + 315 ≤ 7302249) (kk : ∀ H2 locs2, LI s k h1 o0 (K + 1600) H2 locs2 → W p l e room_1 s m #[Value.ref b] below meth c H2 locs2 (cells + 27) (slots + 315) (lw_Z below #[Value.ref b] s) (F0 m 894 ls [])) : W p l e room_1 s m #[Value.ref b] below meth c H locs cells slots (lw_Z below #[Value.ref b] s) (F0 m 710 ls []) := by
  obtain ⟨q, y, A, o, L1, f1, L2, f2, hR, hP, hM, rfl, rfl, n1, n2, a1, a2, dj, P1, P2, hS⟩ := hI
  obtain ⟨hx, hb, hr, hml, hown, hts, hX, hbl, hlocks, hgv⟩ := id C0
  obtain ⟨gH, gN, gK, gM, gQ, gP⟩ := Rel_H hR
  have dj2 : ∀ a ∈ L2, a ∉ L1 := fun a ha hm => dj a hm ha
  have hz : cells ≤ room_1.cells ∧ slots ≤ room_1.slots := ⟨show cells ≤ 600000 by omega, show slots ≤ 7302249 by omega⟩
  refine lv_aload_n hx hb dL_law_710 rfl (lv_at hl 1 rfl) ?_
  refine lw_arg hL C0 hS hl 1 (by omega) rfl dL_law_711 dL_law_712 dL_law_713 dL_law_714 dL_law_715 ?_
  refine lw_arg hL C0 hS hl 2 (by omega) rfl dL_law_716 dL_law_717 dL_law_718 dL_law_719 dL_law_720 ?_
  refine lw_callR C P1 hl (k_X6_firstFree l hP gN (xs (i + 1)) (xs (i + 2))) (isPN_in hP 0 (by decide)) (isPN_0 hP) rfl (cwV 2 C.2.2.2.2.1 gL_law_X6_firstFree rfl rfl rfl kdV_X6_firstFree ⟨Nat.le_of_ble_eq_true rfl, Nat.le_of_ble_eq_true rfl⟩) rfl rfl (Nat.le_of_ble_eq_true rfl) hz dL_law_721 ?_
  refine lv_aload_n hx hb dL_law_724 rfl (lv_at hl 2 rfl) ?_
  refine lw_arg hL C0 hS hl 1 (by omega) rfl dL_law_725 dL_law_726 dL_law_727 dL_law_728 dL_law_729 ?_
  refine lw_arg hL C0 hS hl 2 (by omega) rfl dL_law_730 dL_law_731 dL_law_732 dL_law_733 dL_law_734 ?_
  refine lw_callR C P2 hl (k_X7_firstFree l hM (xs (i + 1)) (xs (i + 2))) (isMS_in hM 0 (by decide)) (isMS_0 hM) rfl (cwV 2 C.2.2.2.2.1 gL_law_X7_firstFree rfl rfl rfl kdV_X7_firstFree ⟨Nat.le_of_ble_eq_true rfl, Nat.le_of_ble_eq_true rfl⟩) rfl rfl (Nat.le_of_ble_eq_true rfl) hz dL_law_735 ?_
  have hF : vX6_firstFree q (xs (i + 1)) (xs (i + 2)) = zFirst y (xs (i + 1)) (xs (i + 2)) := (Q_first (R_wr hR) (xs (i + 1)) (xs (i + 2))).trans (zFirst_Z y (xs (i + 1)) (xs (i + 2))).symm
  refine lv_icmp_eq (tgt := 894) hx hb dL_law_738 (by decide) (fun _ => ?_) (fun h => absurd hF h)
  refine W.widen (k := cells + 27) (n := slots + 315) (by omega) (by omega) ?_
  exact kk _ _ ⟨q, y, A, o, L1, f1, L2, f2, Rel_K hR (by omega), hP, hM, rfl, rfl, n1, n2, a1, a2, dj, P1, P2, hS⟩
set_option maxHeartbeats 1000000 in
theorem lc_put {p : Program} {l : Launch} {e : Env} {s : State} {m : MethodId} {below : List Frame} {meth : Method} {c : Code} {b L : Nat} {xs : Nat → Int32} {k : gK} (hL : L ≤ 2048) (C0 : lw_At p s m meth c b L xs) (C : gC k p s m #[Value.ref b] meth c cL_law RL 4 wsL_law) (hAO : va_AO RX5 s) {h1 o0 K i cells slots : Nat} {H : Heap} {locs : List Loc} {ls : Array Slot} (hI : LI s k h1 o0 K H locs) (hK : K < 2 ^ 31) (hl : lv_has ls 4 (lwl b h1 o0 i)) (hi : i + 4 ≤ L) (hc1 : cells + 27 ≤ 600000) (hc2 : slots + 315 ≤ 7302249) (kk : ∀ H2 locs2, LI s k h1 o0 (K + 1600) H2 locs2 → W p l e room_1 s m #[Value.ref b] below meth c H2 locs2 (cells + 27) (slots + 315) (lw_Z below #[Value.ref b] s) (F0 m 894 ls [])) : W p l e room_1 s m #[Value.ref b] below meth c H locs cells slots (lw_Z below #[Value.ref b] s) (F0 m 743 ls []) := by
  obtain ⟨q, y, A, o, L1, f1, L2, f2, hR, hP, hM, rfl, rfl, n1, n2, a1, a2, dj, P1, P2, hS⟩ := hI
  obtain ⟨hx, hb, hr, hml, hown, hts, hX, hbl, hlocks, hgv⟩ := id C0
  obtain ⟨gH, gN, gK, gM, gQ, gP⟩ := Rel_H hR
  have dj2 : ∀ a ∈ L2, a ∉ L1 := fun a ha hm => dj a hm ha
  have hz : cells ≤ room_1.cells ∧ slots ≤ room_1.slots := ⟨show cells ≤ 600000 by omega, show slots ≤ 7302249 by omega⟩
  obtain ⟨n, hn, e1, e2, e3⟩ := Rel_n hR
  refine lv_aload_n hx hb dL_law_743 rfl (lv_at hl 1 rfl) ?_
  refine lw_arg hL C0 hS hl 1 (by omega) rfl dL_law_744 dL_law_745 dL_law_746 dL_law_747 dL_law_748 ?_
  refine lv_i2l hx hb dL_law_749 rfl ?_
  refine lv_bipush (v := 32) hx hb dL_law_750 (by decide) ?_
  refine lv_lshl hx hb dL_law_752 rfl ?_
  refine lw_arg hL C0 hS hl 2 (by omega) rfl dL_law_753 dL_law_754 dL_law_755 dL_law_756 dL_law_757 ?_
  refine lv_i2l hx hb dL_law_758 rfl ?_
  refine lv_ldc2 hx hb hown (hts _ (tb_in (List.mem_of_getElem? (i := 1098) (by decide +kernel) : Cond.constantLong RL 101 4294967295 ∈ tables_1))) dL_law_759 ?_
  refine lv_land hx hb dL_law_762 ?_
  refine lv_lor hx hb dL_law_763 ?_
  refine lw_callM (x := apV ((xs (i + 1)).toInt64 <<< ((32 : Int32).toInt64 &&& 63) ||| ((xs (i + 2)).toInt64 &&& 4294967295)) n) C a1 dj2 P1 P2 hS hl (k_X6_put l n1 hP e1 hn ((xs (i + 1)).toInt64 <<< ((32 : Int32).toInt64 &&& 63) ||| ((xs (i + 2)).toInt64 &&& 4294967295))) (fun _ _ h => by obtain ⟨h1, _⟩ := h; exact h1) (isPN_in hP 0 (by decide)) (isPN_0 hP) rfl (cwV 1 C.2.2.2.2.1 gL_law_X6_put rfl rfl rfl kdV_X6_put ⟨Nat.le_of_ble_eq_true rfl, Nat.le_of_ble_eq_true rfl⟩) rfl rfl (Nat.le_of_ble_eq_true rfl) hz dL_law_764 (fun v g1 H1 locs1 hp P1 P2 hS => ?_)
  obtain ⟨-, hP2⟩ := hp
  refine lv_aload_n hx hb dL_law_767 rfl (lv_at hl 2 rfl) ?_
  refine lw_arg hL C0 hS hl 1 (by omega) rfl dL_law_768 dL_law_769 dL_law_770 dL_law_771 dL_law_772 ?_
  refine lv_i2l hx hb dL_law_773 rfl ?_
  refine lv_bipush (v := 32) hx hb dL_law_774 (by decide) ?_
  refine lv_lshl hx hb dL_law_776 rfl ?_
  refine lw_arg hL C0 hS hl 2 (by omega) rfl dL_law_777 dL_law_778 dL_law_779 dL_law_780 dL_law_781 ?_
  refine lv_i2l hx hb dL_law_782 rfl ?_
  refine lv_ldc2 hx hb hown (hts _ (tb_in (List.mem_of_getElem? (i := 1098) (by decide +kernel) : Cond.constantLong RL 101 4294967295 ∈ tables_1))) dL_law_783 ?_
  refine lv_land hx hb dL_law_786 ?_
  refine lv_lor hx hb dL_law_787 ?_
  refine lw_callM (x := vMP ((xs (i + 1)).toInt64 <<< ((32 : Int32).toInt64 &&& 63) ||| ((xs (i + 2)).toInt64 &&& 4294967295)) n) C a2 dj P2 P1 hS hl (k_X7_put_ l n2 hM e2 hn ((xs (i + 1)).toInt64 <<< ((32 : Int32).toInt64 &&& 63) ||| ((xs (i + 2)).toInt64 &&& 4294967295))) (fun _ _ h => by obtain ⟨h1, _⟩ := h; exact h1) (isMS_in hM 0 (by decide)) (isMS_0 hM) rfl (cwV 1 C.2.2.2.2.1 gL_law_X7_put_ rfl rfl rfl kdV_X7_put_ ⟨Nat.le_of_ble_eq_true rfl, Nat.le_of_ble_eq_true rfl⟩) rfl rfl (Nat.le_of_ble_eq_true rfl) hz dL_law_788 (fun v2 g2 H2 locs2 hp2 P2 P1 hS => ?_)
  obtain ⟨-, hM2, -⟩ := hp2
  have hF := R_put hR hn e1 ((xs (i + 1)).toInt64 <<< ((32 : Int32).toInt64 &&& 63) ||| ((xs (i + 2)).toInt64 &&& 4294967295))
  refine lv_icmp_eq (tgt := 894) hx hb dL_law_791 (by decide) (fun _ => ?_) (fun h => absurd hF.1 h)
  refine W.widen (k := cells + 27) (n := slots + 315) (by omega) (by omega) ?_
  exact kk _ _ ⟨_, _, A, o, L1, g1, L2, g2, Rel_K hF.2 (by omega), hP2, hM2, rfl, rfl, n1, n2, a1, a2, dj, P1, P2, hS⟩
set_option maxHeartbeats 1000000 in
theorem lc_wipe {p : Program} {l : Launch} {e : Env} {s : State} {m : MethodId} {below : List Frame} {meth : Method} {c : Code} {b L : Nat} {xs : Nat → Int32} {k : gK} (hL : L ≤ 2048) (C0 : lw_At p s m meth c b L xs) (C : gC k p s m #[Value.ref b] meth c cL_law RL 4 wsL_law) (hAO : va_AO RX5 s) {h1 o0 K i cells slots : Nat} {H : Heap} {locs : List Loc} {ls : Array Slot} (hI : LI s k h1 o0 K H locs) (hK : K < 2 ^ 31) (hl : lv_has ls 4 (lwl b h1 o0 i)) (hi : i + 4 ≤ L) (hc1 : cells + 27 ≤ 600000) (hc2 : slots + 315 ≤ 7302249) (kk : ∀ H2 locs2, LI s k h1 o0 (K + 1600) H2 locs2 → W p l e room_1 s m #[Value.ref b] below meth c H2 locs2 (cells + 27) (slots + 315) (lw_Z below #[Value.ref b] s) (F0 m 894 ls [])) : W p l e room_1 s m #[Value.ref b] below meth c H locs cells slots (lw_Z below #[Value.ref b] s) (F0 m 796 ls []) := by
  obtain ⟨q, y, A, o, L1, f1, L2, f2, hR, hP, hM, rfl, rfl, n1, n2, a1, a2, dj, P1, P2, hS⟩ := hI
  obtain ⟨hx, hb, hr, hml, hown, hts, hX, hbl, hlocks, hgv⟩ := id C0
  obtain ⟨gH, gN, gK, gM, gQ, gP⟩ := Rel_H hR
  have dj2 : ∀ a ∈ L2, a ∉ L1 := fun a ha hm => dj a hm ha
  have hz : cells ≤ room_1.cells ∧ slots ≤ room_1.slots := ⟨show cells ≤ 600000 by omega, show slots ≤ 7302249 by omega⟩
  refine lv_aload_n hx hb dL_law_796 rfl (lv_at hl 1 rfl) ?_
  refine lw_callM (x := vX6_wipe q) C a1 dj2 P1 P2 hS hl (k_X6_wipe l n1 hP) (fun _ _ h => by obtain ⟨h1, _⟩ := h; exact h1) (isPN_in hP 0 (by decide)) (isPN_0 hP) rfl (cwV 0 C.2.2.2.2.1 gL_law_X6_wipe rfl rfl rfl kdV_X6_wipe ⟨Nat.le_of_ble_eq_true rfl, Nat.le_of_ble_eq_true rfl⟩) rfl rfl (Nat.le_of_ble_eq_true rfl) hz dL_law_797 (fun v g1 H1 locs1 hp P1 P2 hS => ?_)
  obtain ⟨-, hP2⟩ := hp
  refine lv_aload_n hx hb dL_law_800 rfl (lv_at hl 2 rfl) ?_
  refine lw_callM (x := vX7_wipe y) C a2 dj P2 P1 hS hl (k_X7_wipe l n2 hM) (fun _ _ h => by obtain ⟨h1, _⟩ := h; exact h1) (isMS_in hM 0 (by decide)) (isMS_0 hM) rfl (cwV 0 C.2.2.2.2.1 gL_law_X7_wipe rfl rfl rfl kdV_X7_wipe ⟨Nat.le_of_ble_eq_true rfl, Nat.le_of_ble_eq_true rfl⟩) rfl rfl (Nat.le_of_ble_eq_true rfl) hz dL_law_801 (fun v2 g2 H2 locs2 hp2 P2 P1 hS => ?_)
  obtain ⟨-, hM2, -⟩ := hp2
  have hF := R_wipe hR
  refine lv_icmp_eq (tgt := 894) hx hb dL_law_804 (by decide) (fun _ => ?_) (fun h => absurd hF.1 h)
  refine W.widen (k := cells + 27) (n := slots + 315) (by omega) (by omega) ?_
  exact kk _ _ ⟨_, _, A, o, L1, g1, L2, g2, Rel_K hF.2 (by omega), hP2, hM2, rfl, rfl, n1, n2, a1, a2, dj, P1, P2, hS⟩
set_option maxHeartbeats 1000000 in
theorem lc_fault {p : Program} {l : Launch} {e : Env} {s : State} {m : MethodId} {below : List Frame} {meth : Method} {c : Code} {b L : Nat} {xs : Nat → Int32} {k : gK} (hL : L ≤ 2048) (C0 : lw_At p s m meth c b L xs) (C : gC k p s m #[Value.ref b] meth c cL_law RL 4 wsL_law) (hAO : va_AO RX5 s) {h1 o0 K i cells slots : Nat} {H : Heap} {locs : List Loc} {ls : Array Slot} (hI : LI s k h1 o0 K H locs) (hK : K < 2 ^ 31) (hl : lv_has ls 4 (lwl b h1 o0 i)) (hi : i + 4 ≤ L) (hc1 : cells + 27 ≤ 600000) (hc2 : slots + 315 ≤ 7302249) (kk : ∀ H2 locs2, LI s k h1 o0 (K + 1600) H2 locs2 → W p l e room_1 s m #[Value.ref b] below meth c H2 locs2 (cells + 27) (slots + 315) (lw_Z below #[Value.ref b] s) (F0 m 894 ls [])) : W p l e room_1 s m #[Value.ref b] below meth c H locs cells slots (lw_Z below #[Value.ref b] s) (F0 m 809 ls []) := by
  obtain ⟨q, y, A, o, L1, f1, L2, f2, hR, hP, hM, rfl, rfl, n1, n2, a1, a2, dj, P1, P2, hS⟩ := hI
  obtain ⟨hx, hb, hr, hml, hown, hts, hX, hbl, hlocks, hgv⟩ := id C0
  obtain ⟨gH, gN, gK, gM, gQ, gP⟩ := Rel_H hR
  have dj2 : ∀ a ∈ L2, a ∉ L1 := fun a ha hm => dj a hm ha
  have hz : cells ≤ room_1.cells ∧ slots ≤ room_1.slots := ⟨show cells ≤ 600000 by omega, show slots ≤ 7302249 by omega⟩
  obtain ⟨n, hn, e1, e2, e3⟩ := Rel_n hR
  refine lv_aload_n hx hb dL_law_809 rfl (lv_at hl 1 rfl) ?_
  refine lw_callM (x := flt ((pPad q).1 0) n 80 0) C a1 dj2 P1 P2 hS hl (k_X6_fault l n1 hP e1 hn) (fun _ _ h => by obtain ⟨h1, _⟩ := h; exact h1) (isPN_in hP 0 (by decide)) (isPN_0 hP) rfl (cwV 0 C.2.2.2.2.1 gL_law_X6_fault rfl rfl rfl kdV_X6_fault ⟨Nat.le_of_ble_eq_true rfl, Nat.le_of_ble_eq_true rfl⟩) rfl rfl (Nat.le_of_ble_eq_true rfl) hz dL_law_810 (fun v g1 H1 locs1 hp P1 P2 hS => ?_)
  obtain ⟨-, pd, hpd, hP2⟩ := hp
  refine lv_aload_n hx hb dL_law_813 rfl (lv_at hl 2 rfl) ?_
  refine lw_callM (x := flt (y.1 4) n 80 0) C a2 dj P2 P1 hS hl (k_X7_fault l n2 hM e2 hn) (fun _ _ h => by obtain ⟨h1, _⟩ := h; exact h1) (isMS_in hM 0 (by decide)) (isMS_0 hM) rfl (cwV 0 C.2.2.2.2.1 gL_law_X7_fault rfl rfl rfl kdV_X7_fault ⟨Nat.le_of_ble_eq_true rfl, Nat.le_of_ble_eq_true rfl⟩) rfl rfl (Nat.le_of_ble_eq_true rfl) hz dL_law_814 (fun v2 g2 H2 locs2 hp2 P2 P1 hS => ?_)
  obtain ⟨-, y2, hy2, -, hM2, -⟩ := hp2
  have hF : flt ((pPad q).1 0) n 80 0 = flt (y.1 4) n 80 0 ∧ Rel K _ _ := ⟨R_fault e3, Rel_pad hR hpd hy2⟩
  refine lv_icmp_eq (tgt := 894) hx hb dL_law_817 (by decide) (fun _ => ?_) (fun h => absurd hF.1 h)
  refine W.widen (k := cells + 27) (n := slots + 315) (by omega) (by omega) ?_
  exact kk _ _ ⟨_, _, A, o, L1, g1, L2, g2, Rel_K hF.2 (by omega), hP2, hM2, rfl, rfl, n1, n2, a1, a2, dj, P1, P2, hS⟩
set_option maxHeartbeats 1000000 in
theorem lc_carryOut {p : Program} {l : Launch} {e : Env} {s : State} {m : MethodId} {below : List Frame} {meth : Method} {c : Code} {b L : Nat} {xs : Nat → Int32} {k : gK} (hL : L ≤ 2048) (C0 : lw_At p s m meth c b L xs) (C : gC k p s m #[Value.ref b] meth c cL_law RL 4 wsL_law) (hAO : va_AO RX5 s) {h1 o0 K i cells slots : Nat} {H : Heap} {locs : List Loc} {ls : Array Slot} (hI : LI s k h1 o0 K H locs) (hK : K < 2 ^ 31) (hl : lv_has ls 4 (lwl b h1 o0 i)) (hi : i + 4 ≤ L) (hc1 : cells + 27 ≤ 600000) (hc2 : slots + 315 ≤ 7302249) (kk : ∀ H2 locs2, LI s k h1 o0 (K + 1600) H2 locs2 → W p l e room_1 s m #[Value.ref b] below meth c H2 locs2 (cells + 27) (slots + 315) (lw_Z below #[Value.ref b] s) (F0 m 894 ls [])) : W p l e room_1 s m #[Value.ref b] below meth c H locs cells slots (lw_Z below #[Value.ref b] s) (F0 m 822 ls []) := by
  obtain ⟨q, y, A, o, L1, f1, L2, f2, hR, hP, hM, rfl, rfl, n1, n2, a1, a2, dj, P1, P2, hS⟩ := hI
  obtain ⟨hx, hb, hr, hml, hown, hts, hX, hbl, hlocks, hgv⟩ := id C0
  obtain ⟨gH, gN, gK, gM, gQ, gP⟩ := Rel_H hR
  have dj2 : ∀ a ∈ L2, a ∉ L1 := fun a ha hm => dj a hm ha
  have hz : cells ≤ room_1.cells ∧ slots ≤ room_1.slots := ⟨show cells ≤ 600000 by omega, show slots ≤ 7302249 by omega⟩
  obtain ⟨n, hn, e1, e2, e3⟩ := Rel_n hR
  refine lv_aload_n hx hb dL_law_822 rfl (lv_at hl 1 rfl) ?_
  refine lw_callM (x := vCO q n) C a1 dj2 P1 P2 hS hl (k_X6_carryOut l n1 hP e1 hn gH (I := fun w => ∃ K z, WR K w z) (fun w h => I_w h) (fun w kd a b c h => I_ws w kd a b c h) ⟨K, _, R_wr hR⟩) (fun _ _ h => by obtain ⟨h1, _⟩ := h; exact h1) (isPN_in hP 0 (by decide)) (isPN_0 hP) rfl (cwV 0 C.2.2.2.2.1 gL_law_X6_carryOut rfl rfl rfl kdV_X6_carryOut ⟨Nat.le_of_ble_eq_true rfl, Nat.le_of_ble_eq_true rfl⟩) rfl rfl (Nat.le_of_ble_eq_true rfl) hz dL_law_823 (fun v g1 H1 locs1 hp P1 P2 hS => ?_)
  obtain ⟨-, pd, hpd, hP2⟩ := hp
  refine lv_aload_n hx hb dL_law_826 rfl (lv_at hl 2 rfl) ?_
  refine lw_callM (x := vMO y n) C a2 dj P2 P1 hS hl (k_X7_carryOut l n2 hM e2 hn gK (I := fun z => ∃ K w, WR K w z) (fun z h => I_z h) (fun z kd a b c h h0 => I_zs z kd a b c h h0) ⟨K, _, R_wr hR⟩) (fun _ _ h => by obtain ⟨h1, _⟩ := h; exact h1) (isMS_in hM 0 (by decide)) (isMS_0 hM) rfl (cwV 0 C.2.2.2.2.1 gL_law_X7_carryOut rfl rfl rfl kdV_X7_carryOut ⟨Nat.le_of_ble_eq_true rfl, Nat.le_of_ble_eq_true rfl⟩) rfl rfl (Nat.le_of_ble_eq_true rfl) hz dL_law_827 (fun v2 g2 H2 locs2 hp2 P2 P1 hS => ?_)
  obtain ⟨-, y2, hy2, hM2, -⟩ := hp2
  have hF0 := R_carryOut hR hn e3
  have hF : vCO q n = vMO y n ∧ Rel (K + 1600) _ _ := ⟨hF0.1, Rel_pad hF0.2 hpd hy2⟩
  refine lv_icmp_eq (tgt := 894) hx hb dL_law_830 (by decide) (fun _ => ?_) (fun h => absurd hF.1 h)
  refine W.widen (k := cells + 27) (n := slots + 315) (by omega) (by omega) ?_
  exact kk _ _ ⟨_, _, A, o, L1, g1, L2, g2, Rel_K hF.2 (by omega), hP2, hM2, rfl, rfl, n1, n2, a1, a2, dj, P1, P2, hS⟩
set_option maxHeartbeats 1000000 in
theorem lc_undo {p : Program} {l : Launch} {e : Env} {s : State} {m : MethodId} {below : List Frame} {meth : Method} {c : Code} {b L : Nat} {xs : Nat → Int32} {k : gK} (hL : L ≤ 2048) (C0 : lw_At p s m meth c b L xs) (C : gC k p s m #[Value.ref b] meth c cL_law RL 4 wsL_law) (hAO : va_AO RX5 s) {h1 o0 K i cells slots : Nat} {H : Heap} {locs : List Loc} {ls : Array Slot} (hI : LI s k h1 o0 K H locs) (hK : K < 2 ^ 31) (hl : lv_has ls 4 (lwl b h1 o0 i)) (hi : i + 4 ≤ L) (hc1 : cells + 27 ≤ 600000) (hc2 : slots + 315 ≤ 7302249) (kk : ∀ H2 locs2, LI s k h1 o0 (K + 1600) H2 locs2 → W p l e room_1 s m #[Value.ref b] below meth c H2 locs2 (cells + 27) (slots + 315) (lw_Z below #[Value.ref b] s) (F0 m 894 ls [])) : W p l e room_1 s m #[Value.ref b] below meth c H locs cells slots (lw_Z below #[Value.ref b] s) (F0 m 835 ls []) := by
  obtain ⟨q, y, A, o, L1, f1, L2, f2, hR, hP, hM, rfl, rfl, n1, n2, a1, a2, dj, P1, P2, hS⟩ := hI
  obtain ⟨hx, hb, hr, hml, hown, hts, hX, hbl, hlocks, hgv⟩ := id C0
  obtain ⟨gH, gN, gK, gM, gQ, gP⟩ := Rel_H hR
  have dj2 : ∀ a ∈ L2, a ∉ L1 := fun a ha hm => dj a hm ha
  have hz : cells ≤ room_1.cells ∧ slots ≤ room_1.slots := ⟨show cells ≤ 600000 by omega, show slots ≤ 7302249 by omega⟩
  refine lv_aload_n hx hb dL_law_835 rfl (lv_at hl 1 rfl) ?_
  refine lw_callM (x := vX6_undo q) C a1 dj2 P1 P2 hS hl (k_X6_undo l n1 hP gH) (fun _ _ h => by obtain ⟨h1, _⟩ := h; exact h1) (isPN_in hP 0 (by decide)) (isPN_0 hP) rfl (cwV 0 C.2.2.2.2.1 gL_law_X6_undo rfl rfl rfl kdV_X6_undo ⟨Nat.le_of_ble_eq_true rfl, Nat.le_of_ble_eq_true rfl⟩) rfl rfl (Nat.le_of_ble_eq_true rfl) hz dL_law_836 (fun v g1 H1 locs1 hp P1 P2 hS => ?_)
  obtain ⟨-, hP2⟩ := hp
  refine lv_aload_n hx hb dL_law_839 rfl (lv_at hl 2 rfl) ?_
  refine lw_callM (x := mUndoV y) C a2 dj P2 P1 hS hl (k_X7_undo l n2 hM gK) (fun _ _ h => by obtain ⟨h1, _⟩ := h; exact h1) (isMS_in hM 0 (by decide)) (isMS_0 hM) rfl (cwV 0 C.2.2.2.2.1 gL_law_X7_undo rfl rfl rfl kdV_X7_undo ⟨Nat.le_of_ble_eq_true rfl, Nat.le_of_ble_eq_true rfl⟩) rfl rfl (Nat.le_of_ble_eq_true rfl) hz dL_law_840 (fun v2 g2 H2 locs2 hp2 P2 P1 hS => ?_)
  obtain ⟨-, hM2, -⟩ := hp2
  have hF := R_undo hR
  refine lv_icmp_eq (tgt := 894) hx hb dL_law_843 (by decide) (fun _ => ?_) (fun h => absurd hF.1 h)
  refine W.widen (k := cells + 27) (n := slots + 315) (by omega) (by omega) ?_
  exact kk _ _ ⟨_, _, A, o, L1, g1, L2, g2, Rel_K hF.2 (by omega), hP2, hM2, rfl, rfl, n1, n2, a1, a2, dj, P1, P2, hS⟩
set_option maxHeartbeats 1000000 in
theorem lc_save {p : Program} {l : Launch} {e : Env} {s : State} {m : MethodId} {below : List Frame} {meth : Method} {c : Code} {b L : Nat} {xs : Nat → Int32} {k : gK} (hL : L ≤ 2048) (C0 : lw_At p s m meth c b L xs) (C : gC k p s m #[Value.ref b] meth c cL_law RL 4 wsL_law) (hAO : va_AO RX5 s) {h1 o0 K i cells slots : Nat} {H : Heap} {locs : List Loc} {ls : Array Slot} (hI : LI s k h1 o0 K H locs) (hK : K < 2 ^ 31) (hl : lv_has ls 4 (lwl b h1 o0 i)) (hi : i + 4 ≤ L) (hc1 : cells + 27 ≤ 600000) (hc2 : slots + 315 ≤ 7302249) (kk : ∀ H2 locs2, LI s k h1 o0 (K + 1600) H2 locs2 → W p l e room_1 s m #[Value.ref b] below meth c H2 locs2 (cells + 27) (slots + 315) (lw_Z below #[Value.ref b] s) (F0 m 894 ls [])) : W p l e room_1 s m #[Value.ref b] below meth c H locs cells slots (lw_Z below #[Value.ref b] s) (F0 m 848 ls []) := by
  obtain ⟨q, y, A, o, L1, f1, L2, f2, hR, hP, hM, rfl, rfl, n1, n2, a1, a2, dj, P1, P2, hS⟩ := hI
  obtain ⟨hx, hb, hr, hml, hown, hts, hX, hbl, hlocks, hgv⟩ := id C0
  obtain ⟨gH, gN, gK, gM, gQ, gP⟩ := Rel_H hR
  have dj2 : ∀ a ∈ L2, a ∉ L1 := fun a ha hm => dj a hm ha
  have hz : cells ≤ room_1.cells ∧ slots ≤ room_1.slots := ⟨show cells ≤ 600000 by omega, show slots ≤ 7302249 by omega⟩
  refine lv_aload_n hx hb dL_law_848 rfl (lv_at hl 1 rfl) ?_
  refine lw_arg hL C0 hS hl 1 (by omega) rfl dL_law_849 dL_law_850 dL_law_851 dL_law_852 dL_law_853 ?_
  have hz1 : cells + 27 ≤ room_1.cells ∧ slots + 315 ≤ room_1.slots := ⟨hc1, hc2⟩
  refine lw_callA (x := svV q (xs (i + 1))) C hAO a1 (fun _ h => h) dj2 P1 P2 hS hl (k_X6_save l n1 hP (xs (i + 1))) (fun _ _ _ h => by obtain ⟨h1, _⟩ := h; exact h1) (isPN_in hP 0 (by decide)) (isPN_0 hP) rfl (cwV 1 C.2.2.2.2.1 gL_law_X6_save rfl rfl rfl kdV_X6_save ⟨Nat.le_of_ble_eq_true rfl, Nat.le_of_ble_eq_true rfl⟩) rfl rfl (Nat.le_of_ble_eq_true rfl) hz1 dL_law_854 (fun v N g1 H1 locs1 hp nN aN djN P1 P2 hS => ?_)
  have hz2 := hz1
  have djM : ∀ a ∈ L1 ++ N, a ∉ L2 := fun a ha hm => djN a hm ha
  obtain ⟨-, A2, hA2, hP2⟩ := hp
  refine lv_aload_n hx hb dL_law_857 rfl (lv_at hl 2 rfl) ?_
  refine lw_arg hL C0 hS hl 1 (by omega) rfl dL_law_858 dL_law_859 dL_law_860 dL_law_861 dL_law_862 ?_
  refine lw_callM (x := mSaveV y (xs (i + 1))) C a2 djM P2 P1 hS hl (k_X7_save l n2 hM (xs (i + 1))) (fun _ _ h => by obtain ⟨h1, _⟩ := h; exact h1) (isMS_in hM 0 (by decide)) (isMS_0 hM) rfl (cwV 1 C.2.2.2.2.1 gL_law_X7_save rfl rfl rfl kdV_X7_save ⟨Nat.le_of_ble_eq_true rfl, Nat.le_of_ble_eq_true rfl⟩) rfl rfl (Nat.le_of_ble_eq_true rfl) hz2 dL_law_863 (fun v2 g2 H2 locs2 hp2 P2 P1 hS => ?_)
  obtain ⟨-, hM2, -⟩ := hp2
  have hF := R_save hR (xs (i + 1))
  refine lv_icmp_eq (tgt := 894) hx hb dL_law_866 (by decide) (fun _ => ?_) (fun h => absurd hF.1 h)
  exact kk _ _ ⟨_, _, A2, o, L1 ++ N, g1, L2, g2, Rel_K hF.2 (by omega), hP2, hM2, hA2, rfl, nN, n2, aN, a2, djM, P1, P2, hS⟩
set_option maxHeartbeats 1000000 in
theorem lc_restore {p : Program} {l : Launch} {e : Env} {s : State} {m : MethodId} {below : List Frame} {meth : Method} {c : Code} {b L : Nat} {xs : Nat → Int32} {k : gK} (hL : L ≤ 2048) (C0 : lw_At p s m meth c b L xs) (C : gC k p s m #[Value.ref b] meth c cL_law RL 4 wsL_law) (hAO : va_AO RX5 s) {h1 o0 K i cells slots : Nat} {H : Heap} {locs : List Loc} {ls : Array Slot} (hI : LI s k h1 o0 K H locs) (hK : K < 2 ^ 31) (hl : lv_has ls 4 (lwl b h1 o0 i)) (hi : i + 4 ≤ L) (hc1 : cells + 27 ≤ 600000) (hc2 : slots + 315 ≤ 7302249) (kk : ∀ H2 locs2, LI s k h1 o0 (K + 1600) H2 locs2 → W p l e room_1 s m #[Value.ref b] below meth c H2 locs2 (cells + 27) (slots + 315) (lw_Z below #[Value.ref b] s) (F0 m 894 ls [])) : W p l e room_1 s m #[Value.ref b] below meth c H locs cells slots (lw_Z below #[Value.ref b] s) (F0 m 871 ls []) := by
  obtain ⟨q, y, A, o, L1, f1, L2, f2, hR, hP, hM, rfl, rfl, n1, n2, a1, a2, dj, P1, P2, hS⟩ := hI
  obtain ⟨hx, hb, hr, hml, hown, hts, hX, hbl, hlocks, hgv⟩ := id C0
  obtain ⟨gH, gN, gK, gM, gQ, gP⟩ := Rel_H hR
  have dj2 : ∀ a ∈ L2, a ∉ L1 := fun a ha hm => dj a hm ha
  have hz : cells ≤ room_1.cells ∧ slots ≤ room_1.slots := ⟨show cells ≤ 600000 by omega, show slots ≤ 7302249 by omega⟩
  refine lv_aload_n hx hb dL_law_871 rfl (lv_at hl 1 rfl) ?_
  refine lw_arg hL C0 hS hl 1 (by omega) rfl dL_law_872 dL_law_873 dL_law_874 dL_law_875 dL_law_876 ?_
  refine lw_callM (x := rsV q (xs (i + 1))) C a1 dj2 P1 P2 hS hl (k_X6_restore l n1 hP gH (xs (i + 1))) (fun _ _ h => by obtain ⟨h1, _⟩ := h; exact h1) (isPN_in hP 0 (by decide)) (isPN_0 hP) rfl (cwV 1 C.2.2.2.2.1 gL_law_X6_restore rfl rfl rfl kdV_X6_restore ⟨Nat.le_of_ble_eq_true rfl, Nat.le_of_ble_eq_true rfl⟩) rfl rfl (Nat.le_of_ble_eq_true rfl) hz dL_law_877 (fun v g1 H1 locs1 hp P1 P2 hS => ?_)
  obtain ⟨-, hP2⟩ := hp
  refine lv_aload_n hx hb dL_law_880 rfl (lv_at hl 2 rfl) ?_
  refine lw_arg hL C0 hS hl 1 (by omega) rfl dL_law_881 dL_law_882 dL_law_883 dL_law_884 dL_law_885 ?_
  refine lw_callM (x := mRestoreV y (xs (i + 1))) C a2 dj P2 P1 hS hl (k_X7_restore l n2 hM gK (xs (i + 1))) (fun _ _ h => by obtain ⟨h1, _⟩ := h; exact h1) (isMS_in hM 0 (by decide)) (isMS_0 hM) rfl (cwV 1 C.2.2.2.2.1 gL_law_X7_restore rfl rfl rfl kdV_X7_restore ⟨Nat.le_of_ble_eq_true rfl, Nat.le_of_ble_eq_true rfl⟩) rfl rfl (Nat.le_of_ble_eq_true rfl) hz dL_law_886 (fun v2 g2 H2 locs2 hp2 P2 P1 hS => ?_)
  obtain ⟨-, hM2, -⟩ := hp2
  have hF := R_restore hR (xs (i + 1))
  refine lv_icmp_eq (tgt := 894) hx hb dL_law_889 (by decide) (fun _ => ?_) (fun h => absurd hF.1 h)
  refine W.widen (k := cells + 27) (n := slots + 315) (by omega) (by omega) ?_
  exact kk _ _ ⟨_, _, A, o, L1, g1, L2, g2, Rel_K hF.2 (by omega), hP2, hM2, rfl, rfl, n1, n2, a1, a2, dj, P1, P2, hS⟩
