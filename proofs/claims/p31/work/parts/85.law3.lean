/-! the law's loop and its start -/
abbrev lT (b i : Nat) (AA B : Nat → Nat) : List (Nat × Value) := [(6, .int (nI i)), (0, .ref b), (1, .ref (AA 0)), (2, .ref (B 0)), (3, .ref (B 1)), (4, .ref (B 2)), (5, .ref (B 3))]
/-- the law's end: the firings hold -/
theorem law_end {p : Program} {l : Launch} {e : Env} {s : State} {m : MethodId} {below : List Frame} {meth : Method} {c : Code} {b L : Nat} {xs : Nat → Int32} {k : gK} (C0 : lw_At p s m meth c b L xs) (C : gC k p s m #[Value.ref b] meth c cL_law RL 11 wsL_law) (hAO : va_AO RX5 s) {AA B : Nat → Nat} {L1 L2 : List Nat} (hD : gD (fun q : Nat => s.heap.size ≤ q) (L1 ++ L2)) {cells slots i : Nat} {f : Nat → va_E} (hc : cells ≤ 4000) (hs : slots ≤ 20000) (hI : ∃ q z zr, isLW k L1 L2 f AA q B z ∧ IV i q zr z) (hi : i ≤ 56) : gW p l e room_1 s m #[Value.ref b] below meth c k 11 False (fun q : Nat => s.heap.size ≤ q) s.heap (lw_Z below #[Value.ref b] s) (L1 ++ L2) cells slots f 266 (lT b i AA B) [] := by
  obtain ⟨q, z, zr, hI, h⟩ := hI
  obtain ⟨hx, hb, hr, hml, hown, hts, hX, hbl, hlocks, hgv⟩ := C0
  obtain ⟨n, np, nt, x0, hz⟩ := id h.2.2
  refine gx_aload_n (q := 2) C dL_law_266 rfl ?_
  refine gx_aload_n (q := 3) C dL_law_267 rfl ?_
  refine gx_aload_n (q := 4) C dL_law_268 rfl ?_
  refine gx_callSA C hAO hD (fun _ z => z) (k_L_areFirings l hD.1 hI h hz (by omega)) (va_cwS 3 C.2.2.2.2.1 gL_law_L_areFirings rfl rfl rfl kdN_L_areFirings ⟨Nat.le_of_ble_eq_true rfl, Nat.le_of_ble_eq_true rfl⟩) rfl rfl (Nat.le_of_ble_eq_true rfl) ⟨show cells + 61 ≤ 686590 by omega, show slots + 244 ≤ 7042478 by omega⟩ dL_law_269 (fun v N f2 hp hD2 => ?_)
  obtain ⟨rfl, hf⟩ := hp
  intro H locs ls hP hS _ hl
  refine va_forget (fun q hq => hS.2.2 q hq) ?_
  refine W.widen (k := 686590) (n := 7042478) (by omega) (by omega) ?_
  exact lw_ret hx hb hr hlocks dL_law_272
set_option maxHeartbeats 4000000 in
set_option maxRecDepth 100000 in
theorem law_loop {p : Program} {l : Launch} {e : Env} {s : State} {m : MethodId} {below : List Frame} {meth : Method} {c : Code} {b L : Nat} {xs : Nat → Int32} {k : gK} (hL : L ≤ 260) (C0 : lw_At p s m meth c b L xs) (C : gC k p s m #[Value.ref b] meth c cL_law RL 11 wsL_law) (hAO : va_AO RX5 s) {AA B : Nat → Nat} {L1 L2 : List Nat} (hD : gD (fun q : Nat => s.heap.size ≤ q) (L1 ++ L2)) :
    ∀ (n i cells slots : Nat) (f : Nat → va_E), 56 = i + n → cells ≤ 300 + 61 * i → slots ≤ 3000 + 244 * i → (∃ q z zr, isLW k L1 L2 f AA q B z ∧ IV i q zr z) → gW p l e room_1 s m #[Value.ref b] below meth c k 11 False (fun q : Nat => s.heap.size ≤ q) s.heap (lw_Z below #[Value.ref b] s) (L1 ++ L2) cells slots f 102 (lT b i AA B) [] := by
  obtain ⟨hx, hb, hr, hml, hown, hts, hX, hbl, hlocks, hgv⟩ := id C0
  have hbA : ¬ (fun q : Nat => s.heap.size ≤ q) b := Nat.not_le.mpr hbl
  intro n
  induction n with
  | zero =>
    intro i cells slots f g1 g2 g3 hI
    refine gx_iload (q := 0) C dL_law_102 rfl ?_
    refine gx_bipush (v := 56) C dL_law_104 (by decide) ?_
    refine gx_icmp_ge (tgt := 266) C dL_law_106 (by decide) (fun _ => law_end C0 C hAO hD (by omega) (by omega) hI (by omega)) (fun h => ?_)
    refine absurd ?_ h
    rw [show i = 56 by omega]
    decide
  | succ n ih =>
    intro i cells slots f g1 g2 g3 hI
    have hz0 : cells ≤ room_1.cells ∧ slots ≤ room_1.slots := ⟨show cells ≤ 686590 by omega, show slots ≤ 7042478 by omega⟩
    have next : ∀ (f2 : Nat → va_E) (cells2 slots2 : Nat), cells2 ≤ cells + 61 → slots2 ≤ slots + 244 → (∃ q z zr, isLW k L1 L2 f2 AA q B z ∧ IV (i + 1) q zr z) → gW p l e room_1 s m #[Value.ref b] below meth c k 11 False (fun q : Nat => s.heap.size ≤ q) s.heap (lw_Z below #[Value.ref b] s) (L1 ++ L2) cells2 slots2 f2 260 (lT b i AA B) [] := by
      intro f2 cells2 slots2 c1 c2 hI2
      refine gx_iinc C (q := 0) (v := nI (i + 1)) [(6, .int (nI (i + 1))), (0, .ref b), (1, .ref (AA 0)), (2, .ref (B 0)), (3, .ref (B 1)), (4, .ref (B 2)), (5, .ref (B 3))] dL_law_260 rfl (nI_add i 1) (by decide) rfl ?_
      refine gx_goto (tgt := 102) C dL_law_263 (by decide) ?_
      exact ih (i + 1) cells2 slots2 f2 (by omega) (by omega) (by omega) hI2
    refine gx_iload (q := 0) C dL_law_102 rfl ?_
    refine gx_bipush (v := 56) C dL_law_104 (by decide) ?_
    refine gx_icmp_ge (tgt := 266) C dL_law_106 (by decide) (fun h => absurd h ?_) (fun _ => ?_)
    · rw [Int32.le_iff_toInt_le, nI_toInt (by omega), show (56 : Int32).toInt = 56 from rfl]
      omega
    refine gx_aload_n (q := 1) C dL_law_109 rfl ?_
    refine gx_iconst (v := 2) C dL_law_110 (by decide) ?_
    refine gx_iload (q := 0) C dL_law_111 rfl ?_
    refine gx_imul C dL_law_113 ?_
    refine gx_cell (j := 2 * i) C hX hbl hbA (by omega) (nMul (nLit 2) rfl) (by omega) (va_cwS 2 C.2.2.2.2.1 gL_law_L_cell rfl rfl rfl kdN_L_cell ⟨Nat.le_of_ble_eq_true rfl, Nat.le_of_ble_eq_true rfl⟩) (Nat.le_of_ble_eq_true rfl) hz0 dL_law_114 (fun X => ?_)
    refine gx_istore C [(7, .int X), (6, .int (nI i)), (0, .ref b), (1, .ref (AA 0)), (2, .ref (B 0)), (3, .ref (B 1)), (4, .ref (B 2)), (5, .ref (B 3))] dL_law_117 (by decide) rfl ?_
    refine gx_aload_n (q := 2) C dL_law_119 rfl ?_
    refine gx_iconst (v := 2) C dL_law_120 (by decide) ?_
    refine gx_iload (q := 1) C dL_law_121 rfl ?_
    refine gx_imul C dL_law_123 ?_
    refine gx_iconst (v := 1) C dL_law_124 (by decide) ?_
    refine gx_iadd C dL_law_125 ?_
    refine gx_cell (j := 2 * i + 1) C hX hbl hbA (by omega) (nAdd (nMul (nLit 2) rfl) (nLit 1)) (by omega) (va_cwS 2 C.2.2.2.2.1 gL_law_L_cell rfl rfl rfl kdN_L_cell ⟨Nat.le_of_ble_eq_true rfl, Nat.le_of_ble_eq_true rfl⟩) (Nat.le_of_ble_eq_true rfl) hz0 dL_law_126 (fun Y => ?_)
    refine gx_istore C [(8, .int Y), (7, .int X), (6, .int (nI i)), (0, .ref b), (1, .ref (AA 0)), (2, .ref (B 0)), (3, .ref (B 1)), (4, .ref (B 2)), (5, .ref (B 3))] dL_law_129 (by decide) rfl ?_
    refine gx_join (pc2 := 150) (if (3 : Int32) ≤ nI i then nI (lo (X >>> (7 &&& 31)) 5) else 0) ?_ (fun jj => ?_)
    case refine_2 =>
      refine gx_iload (q := 2) C dL_law_131 rfl ?_
      refine gx_iconst (v := 3) C dL_law_133 (by decide) ?_
      refine gx_icmp_ge (tgt := 141) C dL_law_134 (by decide) (fun h => ?_) (fun h => ?_)
      · refine gx_iload (q := 1) C dL_law_141 rfl ?_
        refine gx_bipush (v := 7) C dL_law_143 (by decide) ?_
        refine gx_ishr C dL_law_145 ?_
        refine gx_iconst (v := 5) C dL_law_146 (by decide) ?_
        refine gx_callRS C (k_L_low l (X >>> (7 &&& 31)) 5 (by decide) (by decide)) (va_cwS 2 C.2.2.2.2.1 gL_law_L_low rfl rfl rfl kdN_L_low ⟨Nat.le_of_ble_eq_true rfl, Nat.le_of_ble_eq_true rfl⟩) rfl rfl (Nat.le_of_ble_eq_true rfl) hz0 dL_law_147 ?_
        exact jj _ (if_pos h).symm
      · refine gx_iconst (v := 0) C dL_law_137 (by decide) ?_
        refine gx_goto (tgt := 150) C dL_law_138 (by decide) ?_
        exact jj _ (if_neg h).symm
    generalize (if (3 : Int32) ≤ nI i then nI (lo (X >>> (7 &&& 31)) 5) else 0) = K
    refine gx_istore C [(9, .int K), (8, .int Y), (7, .int X), (6, .int (nI i)), (0, .ref b), (1, .ref (AA 0)), (2, .ref (B 0)), (3, .ref (B 1)), (4, .ref (B 2)), (5, .ref (B 3))] dL_law_150 (by decide) rfl ?_
    have tail : ∀ (f2 : Nat → va_E), (∃ q z zr, isLW k L1 L2 f2 AA q B z ∧ IV (i + 1) q zr z) → gW p l e room_1 s m #[Value.ref b] below meth c k 11 False (fun q : Nat => s.heap.size ≤ q) s.heap (lw_Z below #[Value.ref b] s) (L1 ++ L2) cells slots f2 220 [(9, .int K), (8, .int Y), (7, .int X), (6, .int (nI i)), (0, .ref b), (1, .ref (AA 0)), (2, .ref (B 0)), (3, .ref (B 1)), (4, .ref (B 2)), (5, .ref (B 3))] [.int 1] := by
      intro f2 hE
      have hE2 := hE
      obtain ⟨q, z, zr, hI, h⟩ := hE2
      obtain ⟨n1, np, nt, x0, hz⟩ := id h.2.2
      refine gx_istore C [(10, .int 1), (9, .int K), (8, .int Y), (7, .int X), (6, .int (nI i)), (0, .ref b), (1, .ref (AA 0)), (2, .ref (B 0)), (3, .ref (B 1)), (4, .ref (B 2)), (5, .ref (B 3))] dL_law_220 (by decide) rfl ?_
      refine gx_iload (q := 0) C dL_law_222 rfl ?_
      refine gx_if_eq (tgt := 258) C dL_law_224 (by decide) (fun h => absurd h (by decide)) (fun _ => ?_)
      refine gx_lv (lT b i AA B) [4, 5, 6, 7, 8, 9, 10] rfl ?_
      refine gx_aload_n (q := 2) C dL_law_227 rfl ?_
      refine gx_aload_n (q := 3) C dL_law_228 rfl ?_
      refine gx_aload_n (q := 4) C dL_law_229 rfl ?_
      refine gx_aload (q := 5) C dL_law_230 rfl ?_
      refine gx_aload (q := 6) C dL_law_232 rfl ?_
      refine gx_callRS C (k_L_isSo l hI h hz (by omega)) (va_cwS 5 C.2.2.2.2.1 gL_law_L_isSo rfl rfl rfl kdN_L_isSo ⟨Nat.le_of_ble_eq_true rfl, Nat.le_of_ble_eq_true rfl⟩) rfl rfl (Nat.le_of_ble_eq_true rfl) hz0 dL_law_234 ?_
      refine gx_if_eq (tgt := 258) C dL_law_237 (by decide) (fun h => absurd h (by decide)) (fun _ => ?_)
      refine gx_iload (q := 0) C dL_law_240 rfl ?_
      refine gx_bipush (v := 6) C dL_law_242 (by decide) ?_
      refine gx_irem C (by decide) dL_law_244 ?_
      refine gx_iconst (v := 5) C dL_law_245 (by decide) ?_
      refine gx_icmp_ne (tgt := 260) C dL_law_246 (by decide) (fun _ => next f2 cells slots (by omega) (by omega) hE) (fun _ => ?_)
      refine gx_aload_n (q := 2) C dL_law_249 rfl ?_
      refine gx_aload_n (q := 3) C dL_law_250 rfl ?_
      refine gx_aload_n (q := 4) C dL_law_251 rfl ?_
      refine gx_callSA C hAO hD (fun _ z => z) (k_L_areFirings l hD.1 hI h hz (by omega)) (va_cwS 3 C.2.2.2.2.1 gL_law_L_areFirings rfl rfl rfl kdN_L_areFirings ⟨Nat.le_of_ble_eq_true rfl, Nat.le_of_ble_eq_true rfl⟩) rfl rfl (Nat.le_of_ble_eq_true rfl) ⟨show cells + 61 ≤ 686590 by omega, show slots + 244 ≤ 7042478 by omega⟩ dL_law_252 (fun v N f3 hp hD2 => ?_)
      obtain ⟨rfl, hf⟩ := hp
      refine gx_if_ne (tgt := 260) C dL_law_255 (by decide) (fun _ => ?_) (fun h => absurd h (by decide))
      refine gx_drop (La := L1 ++ L2) (fun a ha => List.mem_append_left _ ha) ?_
      exact next f3 (cells + 61) (slots + 244) (Nat.le_refl _) (Nat.le_refl _) ⟨q, z, zr, ⟨isPN_cong hI.1 (fun a ha => hf a (List.mem_append_left _ ha)), isLA_cong hI.2.1 (fun a ha => hf a (List.mem_append_right _ ha)), hI.2.2⟩, h⟩
    obtain ⟨q, z, zr, hI, h⟩ := hI
    obtain ⟨n1, np, nt, x0, hz⟩ := id h.2.2
    refine gx_iload (q := 0) C dL_law_152 rfl ?_
    refine gx_iconst (v := 2) C dL_law_154 (by decide) ?_
    refine gx_icmp_ge (tgt := 185) C dL_law_155 (by decide) (fun _ => ?_) (fun _ => ?_)
    · refine gx_iload (q := 0) C dL_law_185 rfl ?_
      refine gx_iconst (v := 4) C dL_law_187 (by decide) ?_
      refine gx_icmp_ge (tgt := 206) C dL_law_188 (by decide) (fun _ => ?_) (fun _ => ?_)
      · refine gx_aload_n (q := 5) C dL_law_206 rfl ?_
        refine gx_iload (q := 2) C dL_law_207 rfl ?_
        refine gx_iload (q := 1) C dL_law_209 rfl ?_
        refine gx_aload_n (q := 6) C dL_law_211 rfl ?_
        refine gx_aload_n (q := 7) C dL_law_212 rfl ?_
        refine gx_aload (q := 8) C dL_law_213 rfl ?_
        refine gx_aload (q := 9) C dL_law_215 rfl ?_
        refine gx_callMS C hD (k_L_others l hD.1 hI h hz (by omega) X Y) (va_cwS 7 C.2.2.2.2.1 gL_law_L_others rfl rfl rfl kdN_L_others ⟨Nat.le_of_ble_eq_true rfl, Nat.le_of_ble_eq_true rfl⟩) rfl rfl (Nat.le_of_ble_eq_true rfl) hz0 dL_law_217 (fun v f2 hp => ?_)
        obtain ⟨rfl, q2, z2, zr2, hI2, h2⟩ := hp
        exact tail f2 ⟨q2, z2, zr2, hI2, h2⟩
      · refine gx_aload_n (q := 5) C dL_law_191 rfl ?_
        refine gx_iload (q := 2) C dL_law_192 rfl ?_
        refine gx_iload (q := 1) C dL_law_194 rfl ?_
        refine gx_aload_n (q := 6) C dL_law_196 rfl ?_
        refine gx_aload_n (q := 7) C dL_law_197 rfl ?_
        refine gx_aload (q := 9) C dL_law_198 rfl ?_
        refine gx_callMS C hD (k_L_pots l hD.1 hI h hz (by omega) X Y (by omega)) (va_cwS 6 C.2.2.2.2.1 gL_law_L_pots rfl rfl rfl kdN_L_pots ⟨Nat.le_of_ble_eq_true rfl, Nat.le_of_ble_eq_true rfl⟩) rfl rfl (Nat.le_of_ble_eq_true rfl) hz0 dL_law_200 (fun v f2 hp => ?_)
        obtain ⟨rfl, q2, z2, zr2, hI2, h2⟩ := hp
        refine gx_goto (tgt := 220) C dL_law_203 (by decide) ?_
        exact tail f2 ⟨q2, z2, zr2, hI2, h2⟩
    · refine gx_aload_n (q := 5) C dL_law_158 rfl ?_
      refine gx_join (pc2 := 171) (if (3 : Int32) ≤ nI i then X else 0) ?_ (fun jj => ?_)
      case refine_2 =>
        refine gx_iload (q := 3) C dL_law_159 rfl ?_
        refine gx_iconst (v := 3) C dL_law_161 (by decide) ?_
        refine gx_icmp_ge (tgt := 169) C dL_law_162 (by decide) (fun h => ?_) (fun h => ?_)
        · refine gx_iload (q := 2) C dL_law_169 rfl ?_
          exact jj _ (if_pos h).symm
        · refine gx_iconst (v := 0) C dL_law_165 (by decide) ?_
          refine gx_goto (tgt := 171) C dL_law_166 (by decide) ?_
          exact jj _ (if_neg h).symm
      generalize (if (3 : Int32) ≤ nI i then X else 0) = X2
      refine gx_iload (q := 1) C dL_law_171 rfl ?_
      refine gx_aload_n (q := 6) C dL_law_173 rfl ?_
      refine gx_aload_n (q := 7) C dL_law_174 rfl ?_
      refine gx_aload (q := 8) C dL_law_175 rfl ?_
      refine gx_aload (q := 9) C dL_law_177 rfl ?_
      refine gx_callMS C hD (k_L_class1 l hD.1 hI h hz (by omega) X2 Y) (va_cwS 7 C.2.2.2.2.1 gL_law_L_class1 rfl rfl rfl kdN_L_class1 ⟨Nat.le_of_ble_eq_true rfl, Nat.le_of_ble_eq_true rfl⟩) rfl rfl (Nat.le_of_ble_eq_true rfl) hz0 dL_law_179 (fun v f2 hp => ?_)
      obtain ⟨rfl, q2, z2, zr2, hI2, h2⟩ := hp
      refine gx_goto (tgt := 220) C dL_law_182 (by decide) ?_
      exact tail f2 ⟨q2, z2, zr2, hI2, h2⟩
set_option maxHeartbeats 4000000 in
set_option maxRecDepth 100000 in
theorem whole_start {p : Program} {e : Env} {s : State} {m : MethodId} {below : List Frame} {meth : Method} {c : Code} (l : Launch) (hflags : l.flags = flags0) {b L : Nat} {xs : Nat → Int32} (hL : L ≤ 260) (C0 : lw_At p s m meth c b L xs) : W p l e room_1 s m #[Value.ref b] below meth c s.heap [] 0 0 (lw_Z below #[Value.ref b] s) (entryFrame m ([Value.ref b] : List Value).toArray 11) := by
  obtain ⟨k, C, hAO⟩ := lw_ctx C0
  obtain ⟨hx, hb, hr, hml, hown, hts, hX, hbl, hlocks, hgv⟩ := id C0
  have C1 : gC k p s m #[Value.ref b] meth c cL_law RL 11 lw_tbl := ⟨C.1, C.2.1, C.2.2.1, C.2.2.2.1, hts, C.2.2.2.2.2⟩
  have hA : ∀ q : Nat, s.heap.size ≤ q → (fun q : Nat => s.heap.size ≤ q) q := fun _ h => h
  have key : gW p l e room_1 s m #[Value.ref b] below meth c k 11 False (fun q : Nat => s.heap.size ≤ q) s.heap (lw_Z below #[Value.ref b] s) [] 0 0 (fun _ => .inr (0, [])) 0 [(0, .ref b)] [] := by
    refine gx_new C1 ⟨List.nodup_nil, fun _ h => absurd h List.not_mem_nil⟩ hA (ci := 6) (fs := [.null, .null, .null, .null]) tyX6_ok rfl inX6 wd_0 wd_1 wd_2 (fun j hj => by rcases (show j = 0 ∨ j = 1 ∨ j = 2 ∨ j = 3 by omega) with rfl | rfl | rfl | rfl <;> rfl) (Nat.le_of_ble_eq_true rfl) (Nat.le_of_ble_eq_true rfl) dL_law_0 (fun q6 hD1 => ?_)
    refine gx_gen (fun g1 hg1 => ?_)
    refine gx_dup C1 rfl dL_law_3 ?_
    refine gx_callI C1 hAO hD1 hA (k_X6_init l hD1.1 (List.mem_append_right _ (List.mem_singleton.mpr rfl)) (by rw [hg1, va_up_at])) (cwI 0 hts (G_tbl gL_law_X6_init) rfl rfl rfl (hts _ wd_2) (hts _ wd_5) (hts _ wd_6) rfl kdN_X6_init ⟨Nat.le_of_ble_eq_true rfl, Nat.le_of_ble_eq_true rfl⟩) rfl rfl (Nat.le_of_ble_eq_true rfl) ⟨(Nat.le_of_ble_eq_true rfl), (Nat.le_of_ble_eq_true rfl)⟩ dL_law_4 (fun v N1 f1 hp hD2 => ?_)
    obtain ⟨rfl, A, hA0, hPN, -⟩ := hp
    refine gx_nil ?_
    generalize hL1 : ([] ++ [q6]) ++ N1 = L1 at hD2 hPN ⊢
    refine gx_astore_n C1 (i := 1) [(1, _), (0, _)] dL_law_7 rfl (by decide) rfl ?_
    rw [← hA0]
    refine gx_bipush (v := 15) C1 dL_law_8 (by decide) ?_
    refine gx_newI C1 hD2 hA (N := 15) wd_3 (by decide) rfl (by decide) (Nat.le_of_ble_eq_true rfl) (Nat.le_of_ble_eq_true rfl) dL_law_10 (fun qg hD3 => ?_)
    refine gx_astore_n C1 (i := 2) [(2, _), (1, _), (0, _)] dL_law_12 rfl (by decide) rfl ?_
    refine gx_bipush (v := 20) C1 dL_law_13 (by decide) ?_
    refine gx_newL C1 hD3 hA (N := 20) wd_4 (by decide) rfl (by decide) (Nat.le_of_ble_eq_true rfl) (Nat.le_of_ble_eq_true rfl) dL_law_15 (fun qb hD4 => ?_)
    refine gx_astore_n C1 (i := 3) [(3, _), (2, _), (1, _), (0, _)] dL_law_17 rfl (by decide) rfl ?_
    refine gx_bipush (v := 31) C1 dL_law_18 (by decide) ?_
    refine gx_newI C1 hD4 hA (N := 31) wd_3 (by decide) rfl (by decide) (Nat.le_of_ble_eq_true rfl) (Nat.le_of_ble_eq_true rfl) dL_law_20 (fun qk hD5 => ?_)
    refine gx_astore C1 (i := 4) [(4, _), (3, _), (2, _), (1, _), (0, _)] dL_law_22 (by decide) rfl ?_
    refine gx_bipush (v := 20) C1 dL_law_24 (by decide) ?_
    refine gx_newI C1 hD5 hA (N := 20) wd_3 (by decide) rfl (by decide) (Nat.le_of_ble_eq_true rfl) (Nat.le_of_ble_eq_true rfl) dL_law_26 (fun qt hD6 => ?_)
    refine gx_astore C1 (i := 5) [(5, _), (4, _), (3, _), (2, _), (1, _), (0, _)] dL_law_28 (by decide) rfl ?_
    have hLe : (((L1 ++ [qg]) ++ [qb]) ++ [qk]) ++ [qt] = L1 ++ [qg, qb, qk, qt] := by simp
    refine gx_re hLe ?_
    have hD : gD (fun q : Nat => s.heap.size ≤ q) (L1 ++ [qg, qb, qk, qt]) := by rw [← hLe]; exact hD6
    refine gx_gen (fun f2 hf2 => ?_)
    have hI0 : isLW k L1 [qg, qb, qk, qt] f2 A psIni (fun i => [qg, qb, qk, qt].getD i 0) (fun _ => 0, fun _ => 0, fun _ => 0, fun _ => 0) := by rw [hf2]; exact lw_0 hD.1 hPN _ _ _ _
    refine gx_lv [(0, .ref b), (1, .ref (A 0)), (2, .ref ((fun i => [qg, qb, qk, qt].getD i 0) 0)), (3, .ref ((fun i => [qg, qb, qk, qt].getD i 0) 1)), (4, .ref ((fun i => [qg, qb, qk, qt].getD i 0) 2)), (5, .ref ((fun i => [qg, qb, qk, qt].getD i 0) 3))] [5, 4, 3, 2, 1, 0] rfl ?_
    generalize (fun i => [qg, qb, qk, qt].getD i 0) = B at hI0 ⊢
    generalize [qg, qb, qk, qt] = L2 at hI0 hD ⊢
    refine gx_aload_n (q := 2) C dL_law_30 rfl ?_
    refine gx_iconst (v := 1) C dL_law_31 (by decide) ?_
    refine gx_iconst (v := 1) C dL_law_32 (by decide) ?_
    refine gx_iastN C hD (lw_mg hI0) (lw_eg hI0) (nLit 1) (by decide) (by decide) dL_law_33 ?_
    refine gx_Lg hI0 (fun f_1 hI_1 => ?_)
    refine gx_aload_n (q := 2) C dL_law_34 rfl ?_
    refine gx_iconst (v := 2) C dL_law_35 (by decide) ?_
    refine gx_iconst (v := 2) C dL_law_36 (by decide) ?_
    refine gx_iastN C hD (lw_mg hI_1) (lw_eg hI_1) (nLit 2) (by decide) (by decide) dL_law_37 ?_
    refine gx_Lg hI_1 (fun f_2 hI_2 => ?_)
    refine gx_aload_n (q := 2) C dL_law_38 rfl ?_
    refine gx_iconst (v := 3) C dL_law_39 (by decide) ?_
    refine gx_bipush (v := 8) C dL_law_40 (by decide) ?_
    refine gx_iastN C hD (lw_mg hI_2) (lw_eg hI_2) (nLit 3) (by decide) (by decide) dL_law_42 ?_
    refine gx_Lg hI_2 (fun f_3 hI_3 => ?_)
    refine gx_aload_n (q := 2) C dL_law_43 rfl ?_
    refine gx_iconst (v := 4) C dL_law_44 (by decide) ?_
    refine gx_bipush (v := 120) C dL_law_45 (by decide) ?_
    refine gx_iastN C hD (lw_mg hI_3) (lw_eg hI_3) (nLit 4) (by decide) (by decide) dL_law_47 ?_
    refine gx_Lg hI_3 (fun f_4 hI_4 => ?_)
    refine gx_aload_n (q := 2) C dL_law_48 rfl ?_
    refine gx_iconst (v := 5) C dL_law_49 (by decide) ?_
    refine gx_iconst (v := 3) C dL_law_50 (by decide) ?_
    refine gx_iastN C hD (lw_mg hI_4) (lw_eg hI_4) (nLit 5) (by decide) (by decide) dL_law_51 ?_
    refine gx_Lg hI_4 (fun f_5 hI_5 => ?_)
    refine gx_bipush (v := 11) C dL_law_52 (by decide) ?_
    refine gx_istore C [(6, .int 11), (0, .ref b), (1, .ref (A 0)), (2, .ref (B 0)), (3, .ref (B 1)), (4, .ref (B 2)), (5, .ref (B 3))] dL_law_54 (by decide) rfl ?_
    refine gx_iload (q := 0) C dL_law_56 rfl ?_
    refine gx_bipush (v := 15) C dL_law_58 (by decide) ?_
    refine gx_icmp_ge (tgt := 75) C dL_law_60 (by decide) (fun h => absurd h (by decide)) (fun _ => ?_)
    refine gx_aload_n (q := 3) C dL_law_63 rfl ?_
    refine gx_iload (q := 0) C dL_law_64 rfl ?_
    refine gx_bipush (v := 20) C dL_law_66 (by decide) ?_
    refine gx_iastN C hD (lw_mg hI_5) (lw_eg hI_5) (nLit 11) (by decide) (by decide) dL_law_68 ?_
    refine gx_Lg hI_5 (fun f_6 hI_6 => ?_)
    refine gx_iinc C (q := 0) (v := 12) [(6, .int 12), (0, .ref b), (1, .ref (A 0)), (2, .ref (B 0)), (3, .ref (B 1)), (4, .ref (B 2)), (5, .ref (B 3))] dL_law_69 rfl (by decide) (by decide) rfl ?_
    refine gx_goto (tgt := 56) C dL_law_72 (by decide) ?_
    refine gx_iload (q := 0) C dL_law_56 rfl ?_
    refine gx_bipush (v := 15) C dL_law_58 (by decide) ?_
    refine gx_icmp_ge (tgt := 75) C dL_law_60 (by decide) (fun h => absurd h (by decide)) (fun _ => ?_)
    refine gx_aload_n (q := 3) C dL_law_63 rfl ?_
    refine gx_iload (q := 0) C dL_law_64 rfl ?_
    refine gx_bipush (v := 20) C dL_law_66 (by decide) ?_
    refine gx_iastN C hD (lw_mg hI_6) (lw_eg hI_6) (nLit 12) (by decide) (by decide) dL_law_68 ?_
    refine gx_Lg hI_6 (fun f_7 hI_7 => ?_)
    refine gx_iinc C (q := 0) (v := 13) [(6, .int 13), (0, .ref b), (1, .ref (A 0)), (2, .ref (B 0)), (3, .ref (B 1)), (4, .ref (B 2)), (5, .ref (B 3))] dL_law_69 rfl (by decide) (by decide) rfl ?_
    refine gx_goto (tgt := 56) C dL_law_72 (by decide) ?_
    refine gx_iload (q := 0) C dL_law_56 rfl ?_
    refine gx_bipush (v := 15) C dL_law_58 (by decide) ?_
    refine gx_icmp_ge (tgt := 75) C dL_law_60 (by decide) (fun h => absurd h (by decide)) (fun _ => ?_)
    refine gx_aload_n (q := 3) C dL_law_63 rfl ?_
    refine gx_iload (q := 0) C dL_law_64 rfl ?_
    refine gx_bipush (v := 20) C dL_law_66 (by decide) ?_
    refine gx_iastN C hD (lw_mg hI_7) (lw_eg hI_7) (nLit 13) (by decide) (by decide) dL_law_68 ?_
    refine gx_Lg hI_7 (fun f_8 hI_8 => ?_)
    refine gx_iinc C (q := 0) (v := 14) [(6, .int 14), (0, .ref b), (1, .ref (A 0)), (2, .ref (B 0)), (3, .ref (B 1)), (4, .ref (B 2)), (5, .ref (B 3))] dL_law_69 rfl (by decide) (by decide) rfl ?_
    refine gx_goto (tgt := 56) C dL_law_72 (by decide) ?_
    refine gx_iload (q := 0) C dL_law_56 rfl ?_
    refine gx_bipush (v := 15) C dL_law_58 (by decide) ?_
    refine gx_icmp_ge (tgt := 75) C dL_law_60 (by decide) (fun h => absurd h (by decide)) (fun _ => ?_)
    refine gx_aload_n (q := 3) C dL_law_63 rfl ?_
    refine gx_iload (q := 0) C dL_law_64 rfl ?_
    refine gx_bipush (v := 20) C dL_law_66 (by decide) ?_
    refine gx_iastN C hD (lw_mg hI_8) (lw_eg hI_8) (nLit 14) (by decide) (by decide) dL_law_68 ?_
    refine gx_Lg hI_8 (fun f_9 hI_9 => ?_)
    refine gx_iinc C (q := 0) (v := 15) [(6, .int 15), (0, .ref b), (1, .ref (A 0)), (2, .ref (B 0)), (3, .ref (B 1)), (4, .ref (B 2)), (5, .ref (B 3))] dL_law_69 rfl (by decide) (by decide) rfl ?_
    refine gx_goto (tgt := 56) C dL_law_72 (by decide) ?_
    refine gx_iload (q := 0) C dL_law_56 rfl ?_
    refine gx_bipush (v := 15) C dL_law_58 (by decide) ?_
    refine gx_icmp_ge (tgt := 75) C dL_law_60 (by decide) (fun _ => ?_) (fun h => absurd (by decide) h)
    have hI : isLW k L1 L2 f_9 A psIni B zsI := hI_9
    have h := IV_ini
    obtain ⟨n1, np, nt, x0, hz⟩ := id h.2.2
    refine gx_aload_n (q := 2) C dL_law_75 rfl ?_
    refine gx_aload_n (q := 3) C dL_law_76 rfl ?_
    refine gx_aload_n (q := 4) C dL_law_77 rfl ?_
    refine gx_aload (q := 5) C dL_law_78 rfl ?_
    refine gx_aload (q := 6) C dL_law_80 rfl ?_
    refine gx_callRS C (k_L_isSo l hI h hz (by decide)) (va_cwS 5 C.2.2.2.2.1 gL_law_L_isSo rfl rfl rfl kdN_L_isSo ⟨Nat.le_of_ble_eq_true rfl, Nat.le_of_ble_eq_true rfl⟩) rfl rfl (Nat.le_of_ble_eq_true rfl) ⟨(Nat.le_of_ble_eq_true rfl), (Nat.le_of_ble_eq_true rfl)⟩ dL_law_82 ?_
    refine gx_if_eq (tgt := 97) C dL_law_85 (by decide) (fun h => absurd h (by decide)) (fun _ => ?_)
    refine gx_aload_n (q := 2) C dL_law_88 rfl ?_
    refine gx_aload_n (q := 3) C dL_law_89 rfl ?_
    refine gx_aload_n (q := 4) C dL_law_90 rfl ?_
    refine gx_callSA C hAO hD (fun _ z => z) (k_L_areFirings l hD.1 hI h hz (by decide)) (va_cwS 3 C.2.2.2.2.1 gL_law_L_areFirings rfl rfl rfl kdN_L_areFirings ⟨Nat.le_of_ble_eq_true rfl, Nat.le_of_ble_eq_true rfl⟩) rfl rfl (Nat.le_of_ble_eq_true rfl) ⟨(Nat.le_of_ble_eq_true rfl), (Nat.le_of_ble_eq_true rfl)⟩ dL_law_91 (fun v N f3 hp hD7 => ?_)
    obtain ⟨rfl, hf⟩ := hp
    refine gx_if_ne (tgt := 99) C dL_law_94 (by decide) (fun _ => ?_) (fun h => absurd h (by decide))
    refine gx_drop (La := L1 ++ L2) (fun a ha => List.mem_append_left _ ha) ?_
    have hI3 : isLW k L1 L2 f3 A psIni B zsI := ⟨isPN_cong hI.1 (fun a ha => hf a (List.mem_append_left _ ha)), isLA_cong hI.2.1 (fun a ha => hf a (List.mem_append_right _ ha)), hI.2.2⟩
    refine gx_iconst (v := 0) C dL_law_99 (by decide) ?_
    refine gx_istore C (lT b 0 A B) dL_law_100 (by decide) rfl ?_
    exact law_loop hL C0 C hAO hD 56 0 _ _ f3 rfl (Nat.le_of_ble_eq_true rfl) (Nat.le_of_ble_eq_true rfl) ⟨psIni, zsI, zI0, hI3, h⟩
  rw [lg_entry_eq]
  have hl := lv_entry ([.ref b]) (n := 11) (Nat.le_of_ble_eq_true rfl)
  exact key s.heap [] _ (fun j q h => by simp [va_pl] at h) va_S.rf (fun z => z.elim) hl
