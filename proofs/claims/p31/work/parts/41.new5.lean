def wsIn (i : Nat) : Nat := [0, 3, 4, 1, 5, 6, 2].getD i i
def psPi (n : Nat) : Nat := if n = 0 then 0 else if n = 1 then 28 else if n = 2 then 29 else if n = 3 then 219 else if n = 4 then 220 else if n = 5 then 221 else if n < 33 then 1 + wsPi (n - 6) else 30 + 27 * ((n - 33) / 27) + wsPi ((n - 33) % 27)
def psIn (k : Nat) : Nat := if k = 0 then 0 else if k < 28 then 6 + wsIn (k - 1) else if k = 28 then 1 else if k = 29 then 2 else if k < 219 then 33 + 27 * ((k - 30) / 27) + wsIn ((k - 30) % 27) else if k = 219 then 3 else if k = 220 then 4 else 5
set_option maxRecDepth 100000 in
theorem psPi_inv : ∀ n, n < 222 → psIn (psPi n) = n ∧ psPi n < 222 := by decide +kernel
def psA (T : List Nat) : Nat → Nat := fun n => T.getD (psPi n) 0
theorem psA_inj {T : List Nat} (hT : T.Nodup) (hl : T.length = 222) {n m : Nat} (hn : n < 222) (hm : m < 222) (e : psA T n = psA T m) : n = m := by
  have h1 := psPi_inv n hn
  have h2 := psPi_inv m hm
  have := getD_nd hT (i := psPi n) (j := psPi m) (by omega) (by omega) e
  rw [← h1.1, ← h2.1, this]
theorem psPi_now (i : Nat) (hi : i < 27) : psPi (6 + i) = 1 + wsPi i := by
  unfold psPi
  rw [if_neg (by omega), if_neg (by omega), if_neg (by omega), if_neg (by omega), if_neg (by omega), if_neg (by omega), if_pos (by omega), show 6 + i - 6 = i by omega]
theorem psPi_ring (j i : Nat) (hi : i < 27) : psPi (33 + 27 * j + i) = 30 + (27 * j + wsPi i) := by
  unfold psPi
  rw [if_neg (by omega), if_neg (by omega), if_neg (by omega), if_neg (by omega), if_neg (by omega), if_neg (by omega), if_neg (by omega), show (33 + 27 * j + i - 33) / 27 = j by omega, show (33 + 27 * j + i - 33) % 27 = i by omega]
  omega
def psIni : PS := (wIni, fun _ => wIni, fun _ => none, fun _ => 0, (fun _ _ => 0, fun _ => 0))
abbrev psT (h q5 : Nat) (N5 : List Nat) (q16 st : Nat) (Ws : List Nat) (q28 q35 cd : Nat) : List Nat := h :: ((q5 :: N5) ++ (q16 :: st :: (Ws ++ [q28, q35, cd])))
section
variable {h q5 q16 st q28 q35 cd : Nat} {N5 Ws : List Nat}
theorem psT_len (h5 : N5.length = 26) (hw : Ws.length = 189) : (psT h q5 N5 q16 st Ws q28 q35 cd).length = 222 := by
  simp only [psT, List.length_cons, List.length_append, h5, hw, List.length_nil]
theorem psT_now (h5 : N5.length = 26) (i : Nat) (hi : i < 27) : psA (psT h q5 N5 q16 st Ws q28 q35 cd) (6 + i) = wsB (q5 :: N5) 0 i := by
  have := wsPi_lt i hi
  unfold psA wsB
  rw [psPi_now i hi, Nat.zero_add, Nat.add_comm 1]
  show ((q5 :: N5) ++ _).getD (wsPi i) 0 = _
  exact getD_l (by rw [List.length_cons, h5]; omega)
theorem psT_ring (h5 : N5.length = 26) (hw : Ws.length = 189) (j i : Nat) (hj : j < 7) (hi : i < 27) : psA (psT h q5 N5 q16 st Ws q28 q35 cd) (33 + 27 * j + i) = wsB Ws (27 * j) i := by
  have := wsPi_lt i hi
  unfold psA wsB
  rw [psPi_ring j i hi]
  have e : psT h q5 N5 q16 st Ws q28 q35 cd = (h :: ((q5 :: N5) ++ [q16, st])) ++ (Ws ++ [q28, q35, cd]) := by simp [psT]
  rw [e, getD_r (by simp [h5])]
  exact getD_l (by omega)
theorem psT_k (h5 : N5.length = 26) (k : Nat) : (psT h q5 N5 q16 st Ws q28 q35 cd).getD (28 + k) 0 = (q16 :: st :: (Ws ++ [q28, q35, cd])).getD k 0 := by
  have e : psT h q5 N5 q16 st Ws q28 q35 cd = (h :: (q5 :: N5)) ++ (q16 :: st :: (Ws ++ [q28, q35, cd])) := by simp [psT]
  rw [e, getD_r (by simp [h5])]
theorem psT_e (h5 : N5.length = 26) (hw : Ws.length = 189) (k : Nat) : (psT h q5 N5 q16 st Ws q28 q35 cd).getD (219 + k) 0 = [q28, q35, cd].getD k 0 := by
  have e : psT h q5 N5 q16 st Ws q28 q35 cd = (h :: ((q5 :: N5) ++ (q16 :: st :: Ws))) ++ [q28, q35, cd] := by simp [psT]
  rw [e, getD_r (by simp [h5, hw])]
theorem psT_1 (h5 : N5.length = 26) : psA (psT h q5 N5 q16 st Ws q28 q35 cd) 1 = q16 := psT_k h5 0
theorem psT_2 (h5 : N5.length = 26) : psA (psT h q5 N5 q16 st Ws q28 q35 cd) 2 = st := psT_k h5 1
theorem psT_3 (h5 : N5.length = 26) (hw : Ws.length = 189) : psA (psT h q5 N5 q16 st Ws q28 q35 cd) 3 = q28 := psT_e h5 hw 0
theorem psT_4 (h5 : N5.length = 26) (hw : Ws.length = 189) : psA (psT h q5 N5 q16 st Ws q28 q35 cd) 4 = q35 := psT_e h5 hw 1
theorem psT_5 (h5 : N5.length = 26) (hw : Ws.length = 189) : psA (psT h q5 N5 q16 st Ws q28 q35 cd) 5 = cd := psT_e h5 hw 2
theorem psT_6 (h5 : N5.length = 26) : psA (psT h q5 N5 q16 st Ws q28 q35 cd) 6 = q5 := psT_now h5 0 (by omega)
end
theorem kdN_X6_init : yX6_init.cls ≠ "java/lang/invoke/MethodHandle" ∧ yX6_init.cls ≠ "java/lang/invoke/VarHandle" ∧ (parseMethodDescriptor yX6_init.desc).map (fun d => d.parameters.length) = some 0 := by decide +kernel
theorem kdV_X6_init : yX6_init.cls = RX6 ∧ yX6_init.cls ≠ "java/lang/invoke/MethodHandle" ∧ yX6_init.cls ≠ "java/lang/invoke/VarHandle" ∧ (parseMethodDescriptor yX6_init.desc).map (fun d => d.parameters.length) = some 0 := ⟨rfl, kdN_X6_init⟩
theorem wd_X6_init_oi : Cond.methodLink RX6 3 objectInit ∈ wsX6_init := by decide +kernel
theorem wd_X6_init_oj : Cond.instanceMethod objectInit ∈ wsX6_init := by decide +kernel
theorem wd_X6_init_ok : Cond.code objectInit ⟨#[0xb1]⟩ 1 none ∈ wsX6_init := by decide +kernel
theorem wd_X6_init_cl9 : Cond.classLink RX6 9 RX5 ∈ wsX6_init := by decide +kernel
theorem wd_X6_init_inRX5 : Cond.instantiable RX5 8 ∈ wsX6_init := by decide +kernel
theorem wd_X6_init_iiRX5 : Cond.initialized RX5 ∈ wsX6_init := by decide +kernel
theorem wd_X6_init_cl16 : Cond.classLink RX6 16 RX1 ∈ wsX6_init := by decide +kernel
theorem wd_X6_init_inRX1 : Cond.instantiable RX1 3 ∈ wsX6_init := by decide +kernel
theorem wd_X6_init_iiRX1 : Cond.initialized RX1 ∈ wsX6_init := by decide +kernel
theorem wd_X6_init_cl27 : Cond.classLink RX6 27 RX2 ∈ wsX6_init := by decide +kernel
theorem wd_X6_init_inRX2 : Cond.instantiable RX2 7 ∈ wsX6_init := by decide +kernel
theorem wd_X6_init_iiRX2 : Cond.initialized RX2 ∈ wsX6_init := by decide +kernel
theorem wd_X6_init_ml11 : Cond.methodLink RX6 11 yX5_init ∈ wsX6_init := by decide +kernel
theorem wd_X6_init_im_X5_init : Cond.instanceMethod yX5_init ∈ wsX6_init := by decide +kernel
theorem wd_X6_init_ml18 : Cond.methodLink RX6 18 yX1_init ∈ wsX6_init := by decide +kernel
theorem wd_X6_init_im_X1_init : Cond.instanceMethod yX1_init ∈ wsX6_init := by decide +kernel
theorem wd_X6_init_im_X2_init : Cond.instanceMethod yX2_init ∈ wsX6_init := by decide +kernel
theorem in_X6_init_5 : ∀ w ∈ u_ws RX5 TX5 8, w ∈ wsX6_init := by decide +kernel
theorem in_X6_init_6 : ∀ w ∈ u_ws RX6 TX6 4, w ∈ wsX6_init := by decide +kernel
theorem fl_X6_init_12 : Cond.fieldLink RX6 12 (TX6 0).1 (TX6 0).2.1 (TX6 0).2.2.1 ∈ wsX6_init := by decide +kernel
theorem in_X6_init_1 : ∀ w ∈ u_ws RX1 TX1 3, w ∈ wsX6_init := by decide +kernel
theorem fl_X6_init_19 : Cond.fieldLink RX6 19 (TX6 1).1 (TX6 1).2.1 (TX6 1).2.2.1 ∈ wsX6_init := by decide +kernel
theorem fl_X6_init_23 : Cond.fieldLink RX6 23 (TX6 2).1 (TX6 2).2.1 (TX6 2).2.2.1 ∈ wsX6_init := by decide +kernel
theorem in_X6_init_2 : ∀ w ∈ u_ws RX2 TX2 7, w ∈ wsX6_init := by decide +kernel
theorem fl_X6_init_30 : Cond.fieldLink RX6 30 (TX6 3).1 (TX6 3).2.1 (TX6 3).2.2.1 ∈ wsX6_init := by decide +kernel
abbrev rmX6_init : Room := { frames := 5, cells := 221, slots := 2619, locals := 107 }
set_option maxHeartbeats 4000000 in
set_option maxRecDepth 100000 in
theorem k_X6_init (l : Launch) {k : gK} {L : List Nat} {f : Nat → va_E} (hL : L.Nodup) {h : Nat} (hh : h ∈ L) (hf : f h = .inr (6, [.null, .null, .null, .null])) : kA l k L f yX6_init wsX6_init rmX6_init [.ref h] 221 2619 (fun v N f2 => v = none ∧ ∃ A, A 0 = h ∧ isPN k (L ++ N) f2 A psIni ∧ ∀ x ∈ L, x ≠ h → f2 x = f x) := by
  refine kA_of (cc := cX6_init) (maxL := 1) (ret := none) hL (by decide) rfl (Nat.le_of_ble_eq_true rfl) ?_
  intro p e s m args below meth c C hr hin hAO hD
  have hA : ∀ q, s.heap.size ≤ q → q ∈ L ∨ s.heap.size ≤ q := fun _ h => Or.inr h
  have m_h := hh
  have e_h := hf
  have inc : ∀ x ∈ L, x ∈ L := fun _ h => h
  have fr : ∀ x ∈ L, x ≠ h → f x = f x := fun _ _ _ => rfl
  refine gx_lv [(0, _)] [0] rfl ?_
  refine gx_aload_n (q := 0) C dX6_init_0 rfl ?_
  refine gx_objInit C wd_X6_init_oi wd_X6_init_oj wd_X6_init_ok (Nat.le_of_ble_eq_true rfl) (Nat.le_of_ble_eq_true rfl) dX6_init_1 ?_
  refine gx_aload_n (q := 0) C dX6_init_4 rfl ?_
  refine gx_new C hD hA (ci := 5) (fs := [.null, .null, .null, .null, .null, .int 0, .int 0, .int 0]) tyX5_ok rfl in_X6_init_5 wd_X6_init_cl9 wd_X6_init_inRX5 wd_X6_init_iiRX5 (fun j hj => by rcases (show j = 0 ∨ j = 1 ∨ j = 2 ∨ j = 3 ∨ j = 4 ∨ j = 5 ∨ j = 6 ∨ j = 7 by omega) with rfl | rfl | rfl | rfl | rfl | rfl | rfl | rfl <;> rfl) (Nat.le_of_ble_eq_true rfl) (Nat.le_of_ble_eq_true rfl) dX6_init_5 (fun q5 hD1 => ?_)
  refine gx_gen (fun f1 hf1 => ?_)
  have n1 : ∀ x ∈ L, x ≠ q5 := fun x hx => gD_ne hD1 hx (List.mem_singleton.mpr rfl)
  refine gx_dup C rfl dX6_init_8 ?_
  refine gx_callI C hAO hD1 hA (k_X5_init l hD1.1 (List.mem_append_right _ (List.mem_singleton.mpr rfl)) (by rw [hf1, va_up_at])) (cwI 0 C.2.2.2.2.1 gX6_init_X5_init rfl rfl rfl (C.2.2.2.2.1 _ wd_X6_init_iiRX5) (C.2.2.2.2.1 _ wd_X6_init_ml11) (C.2.2.2.2.1 _ wd_X6_init_im_X5_init) rfl kdN_X5_init ⟨Nat.le_of_ble_eq_true rfl, Nat.le_of_ble_eq_true rfl⟩) rfl rfl (Nat.le_of_ble_eq_true rfl) ⟨(Nat.le_of_ble_eq_true rfl), (Nat.le_of_ble_eq_true rfl)⟩ dX6_init_9 (fun v2 N2 f2 hp2 hD2 => ?_)
  obtain ⟨rfl, h5, W5, fr2⟩ := hp2
  refine gx_nil ?_
  have m2 : ∀ x ∈ L, x ∈ (L ++ [q5]) ++ N2 := fun x hx => List.mem_append_left _ (List.mem_append_left _ hx)
  have k2 : ∀ x ∈ L, f2 x = f x := fun x hx => (fr2 x (List.mem_append_left _ hx) (n1 x hx)).trans (show f1 x = f x by rw [hf1, va_up_of _ (n1 x hx)])
  refine gx_putF C hD2 (i := 0) (ty := (.object RX5)) tyX6_ok nmX6 (m2 h hh) ((k2 h hh).trans hf) rfl in_X6_init_6 (by decide) fl_X6_init_12 rfl hin rfl (by decide +kernel) rfl rfl (Nat.le_of_ble_eq_true rfl) rfl dX6_init_12 ?_
  refine gx_gen (fun f3 hf3 => ?_)
  refine gx_aload_n (q := 0) C dX6_init_15 rfl ?_
  refine gx_new C hD2 hA (ci := 1) (fs := [.null, .int 0, .int 0]) tyX1_ok rfl in_X6_init_1 wd_X6_init_cl16 wd_X6_init_inRX1 wd_X6_init_iiRX1 (fun j hj => by rcases (show j = 0 ∨ j = 1 ∨ j = 2 by omega) with rfl | rfl | rfl <;> rfl) (Nat.le_of_ble_eq_true rfl) (Nat.le_of_ble_eq_true rfl) dX6_init_16 (fun q16 hD4 => ?_)
  refine gx_gen (fun f4 hf4 => ?_)
  have n4 : ∀ x ∈ (L ++ [q5]) ++ N2, x ≠ q16 := fun x hx => gD_ne hD4 hx (List.mem_singleton.mpr rfl)
  refine gx_dup C rfl dX6_init_19 ?_
  refine gx_callI C hAO hD4 hA (k_X1_init l hD4.1 (List.mem_append_right _ (List.mem_singleton.mpr rfl)) (by rw [hf4, va_up_at])) (cwI 0 C.2.2.2.2.1 gX6_init_X1_init rfl rfl rfl (C.2.2.2.2.1 _ wd_X6_init_iiRX1) (C.2.2.2.2.1 _ wd_X6_init_ml18) (C.2.2.2.2.1 _ wd_X6_init_im_X1_init) rfl kdN_X1_init ⟨Nat.le_of_ble_eq_true rfl, Nat.le_of_ble_eq_true rfl⟩) rfl rfl (Nat.le_of_ble_eq_true rfl) ⟨(Nat.le_of_ble_eq_true rfl), (Nat.le_of_ble_eq_true rfl)⟩ dX6_init_20 (fun v5 N5 f5 hp5 hD5 => ?_)
  obtain ⟨rfl, st, Ws, rfl, hw, e16, est, hb5, fr5⟩ := hp5
  refine gx_nil ?_
  have k5 : ∀ x ∈ (L ++ [q5]) ++ N2, f5 x = f3 x := fun x hx => (fr5 x (List.mem_append_left _ hx) (n4 x hx)).trans (show f4 x = f3 x by rw [hf4, va_up_of _ (n4 x hx)])
  have m5 : ∀ x ∈ (L ++ [q5]) ++ N2, x ∈ (((L ++ [q5]) ++ N2) ++ [q16]) ++ (st :: Ws) := fun x hx => List.mem_append_left _ (List.mem_append_left _ hx)
  refine gx_putF C hD5 (i := 1) (ty := (.object RX1)) tyX6_ok nmX6 (m5 h (m2 h hh)) ((k5 h (m2 h hh)).trans (by rw [hf3, va_up_at] <;> rfl)) rfl in_X6_init_6 (by decide) fl_X6_init_19 rfl hin rfl (by decide +kernel) rfl rfl (Nat.le_of_ble_eq_true rfl) rfl dX6_init_23 ?_
  refine gx_gen (fun f6 hf6 => ?_)
  refine gx_aload_n (q := 0) C dX6_init_26 rfl ?_
  refine gx_iconst (v := 2) C dX6_init_27 (by decide) ?_
  refine gx_newW C hAO hD5 hA (N := 2) wd_X6_init_cl9 (by decide) rfl (Nat.le_of_ble_eq_true rfl) (Nat.le_of_ble_eq_true rfl) (Nat.le_of_ble_eq_true rfl) dX6_init_28 (fun q28 hD7 => ?_)
  refine gx_gen (fun f7 hf7 => ?_)
  have n7 : ∀ x ∈ ((((L ++ [q5]) ++ N2) ++ [q16]) ++ (st :: Ws)), x ≠ q28 := fun x hx => gD_ne hD7 hx (List.mem_singleton.mpr rfl)
  refine gx_putF C hD7 (i := 2) (ty := (.array (.object RX5))) tyX6_ok nmX6 (List.mem_append_left _ (m5 h (m2 h hh))) ((show f7 h = f6 h by rw [hf7, va_up_of _ (n7 h (m5 h (m2 h hh)))]).trans (by rw [hf6, va_up_at] <;> rfl)) rfl in_X6_init_6 (by decide) fl_X6_init_23 rfl hin rfl (by decide +kernel) rfl rfl (Nat.le_of_ble_eq_true rfl) rfl dX6_init_31 ?_
  refine gx_gen (fun f8 hf8 => ?_)
  refine gx_aload_n (q := 0) C dX6_init_34 rfl ?_
  refine gx_new C hD7 hA (ci := 2) (fs := [.null, .int 0, .int 0, .int 0, .int 0, .int 0, .int 0]) tyX2_ok rfl in_X6_init_2 wd_X6_init_cl27 wd_X6_init_inRX2 wd_X6_init_iiRX2 (fun j hj => by rcases (show j = 0 ∨ j = 1 ∨ j = 2 ∨ j = 3 ∨ j = 4 ∨ j = 5 ∨ j = 6 by omega) with rfl | rfl | rfl | rfl | rfl | rfl | rfl <;> rfl) (Nat.le_of_ble_eq_true rfl) (Nat.le_of_ble_eq_true rfl) dX6_init_35 (fun q35 hD9 => ?_)
  refine gx_gen (fun f9 hf9 => ?_)
  have n9 : ∀ x ∈ (((((L ++ [q5]) ++ N2) ++ [q16]) ++ (st :: Ws)) ++ [q28]), x ≠ q35 := fun x hx => gD_ne hD9 hx (List.mem_singleton.mpr rfl)
  refine gx_dup C rfl dX6_init_38 ?_
  refine gx_callIN C hAO hD9 hA (k_X2_init l hD9.1 (List.mem_append_right _ (List.mem_singleton.mpr rfl)) (by rw [hf9, va_up_at])) ⟨va_cnB 0 C.2.2.2.2.1 gX6_init_X2_init_n29 rfl rfl rfl (C.2.2.2.2.2.1.2.2 (RX6, 29, yX2_init) (by decide +kernel)) (C.2.2.2.2.1 _ wd_X6_init_iiRX2) kdN_X2_init ⟨Nat.le_of_ble_eq_true rfl, Nat.le_of_ble_eq_true rfl⟩, rfl, C.2.2.2.2.1 _ wd_X6_init_im_X2_init⟩ rfl rfl (Nat.le_of_ble_eq_true rfl) ⟨(Nat.le_of_ble_eq_true rfl), (Nat.le_of_ble_eq_true rfl)⟩ dX6_init_39 (fun v10 N10 f10 hp10 hD10 => ?_)
  obtain ⟨rfl, cd, rfl, e35, ecd, fr10⟩ := hp10
  refine gx_nil ?_
  have mh : h ∈ (((((L ++ [q5]) ++ N2) ++ [q16]) ++ (st :: Ws)) ++ [q28]) := List.mem_append_left _ (m5 h (m2 h hh))
  have k10 : ∀ x ∈ (((((L ++ [q5]) ++ N2) ++ [q16]) ++ (st :: Ws)) ++ [q28]), f10 x = f8 x := fun x hx => (fr10 x (List.mem_append_left _ hx) (n9 x hx)).trans (show f9 x = f8 x by rw [hf9, va_up_of _ (n9 x hx)])
  refine gx_putF C hD10 (i := 3) (ty := (.object RX2)) tyX6_ok nmX6 (List.mem_append_left _ (List.mem_append_left _ mh)) ((k10 h mh).trans (by rw [hf8, va_up_at] <;> rfl)) rfl in_X6_init_6 (by decide) fl_X6_init_30 rfl hin rfl (by decide +kernel) rfl rfl (Nat.le_of_ble_eq_true rfl) rfl dX6_init_42 ?_
  refine gx_gen (fun f11 hf11 => ?_)
  have K7 : ∀ x ∈ (((((L ++ [q5]) ++ N2) ++ [q16]) ++ (st :: Ws)) ++ [q28]), x ≠ h → f11 x = f7 x := fun x hx hn => by rw [hf11, va_up_of _ hn, k10 x hx, hf8, va_up_of _ hn]
  have K5 : ∀ x ∈ ((((L ++ [q5]) ++ N2) ++ [q16]) ++ (st :: Ws)), x ≠ h → f11 x = f5 x := fun x hx hn => (K7 x (List.mem_append_left _ hx) hn).trans (by rw [hf7, va_up_of _ (n7 x hx), hf6, va_up_of _ hn])
  have K2 : ∀ x ∈ (L ++ [q5]) ++ N2, x ≠ h → f11 x = f2 x := fun x hx hn => (K5 x (m5 x hx) hn).trans ((k5 x hx).trans (by rw [hf3, va_up_of _ hn]))
  have hLc : ((((((L ++ [q5]) ++ N2) ++ [q16]) ++ (st :: Ws)) ++ [q28]) ++ [q35]) ++ [cd] = L ++ ((q5 :: N2) ++ (q16 :: st :: (Ws ++ [q28, q35, cd]))) := by simp
  have hDf := hD10
  rw [hLc] at hDf
  have nd : (psT h q5 N2 q16 st Ws q28 q35 cd).Nodup := nod_cons hDf hh
  have hlen := psT_len (h := h) (q5 := q5) (q16 := q16) (st := st) (q28 := q28) (q35 := q35) (cd := cd) h5 hw
  have nh : ∀ x ∈ ((q5 :: N2) ++ (q16 :: st :: (Ws ++ [q28, q35, cd]))), x ≠ h := fun x hx => Ne.symm (gD_ne hDf hh hx)
  have nin : ∀ x ∈ ((q5 :: N2) ++ (q16 :: st :: (Ws ++ [q28, q35, cd]))), x ∈ L ++ ((q5 :: N2) ++ (q16 :: st :: (Ws ++ [q28, q35, cd]))) := fun x hx => List.mem_append_right _ hx
  refine gx_vretA C hr (N := ((q5 :: N2) ++ (q16 :: st :: (Ws ++ [q28, q35, cd])))) hLc hD10 dX6_init_45 ?_
  refine ⟨rfl, psA (psT h q5 N2 q16 st Ws q28 q35 cd), rfl, ⟨?_, ?_, ?_, ?_, ?_, ?_, ?_, ?_, ?_, ?_⟩, ?_⟩
  · intro n hn
    have hn : n < 222 := hn.elim id (fun z => z.elim (fun z => absurd rfl z.2.2) (fun z => absurd rfl z.2.2))
    rcases List.mem_cons.mp (getD_in (T := psT h q5 N2 q16 st Ws q28 q35 cd) (i := psPi n) (by rw [hlen]; exact (psPi_inv n hn).2)) with z | z
    · rw [show psA (psT h q5 N2 q16 st Ws q28 q35 cd) n = h from z]; exact List.mem_append_left _ hh
    · exact nin _ z
  · intro n m hn hm
    have hn : n < 222 := hn.elim id (fun z => z.elim (fun z => absurd rfl z.2.2) (fun z => absurd rfl z.2.2))
    have hm : m < 222 := hm.elim id (fun z => z.elim (fun z => absurd rfl z.2.2) (fun z => absurd rfl z.2.2))
    exact psA_inj nd hlen hn hm
  · rw [psT_6 h5, psT_1 h5, psT_3 h5 hw, psT_4 h5 hw]
    show f11 h = _
    rw [hf11, va_up_at] <;> rfl
  · rw [psT_1 h5, psT_2 h5, K5 q16 (List.mem_append_left _ (List.mem_append_right _ (List.mem_singleton.mpr rfl))) (nh q16 (by simp))]
    exact e16
  · obtain ⟨gg, g1, g2⟩ := est
    refine ⟨gg, ?_, fun j hj => ?_⟩
    · rw [psT_2 h5, K5 st (List.mem_append_right _ (by simp)) (nh st (by simp))]; exact g1
    · rw [g2 j hj, show psA (psT h q5 N2 q16 st Ws q28 q35 cd) (33 + 27 * j) = _ from psT_ring h5 hw j 0 hj (by omega)]
  · refine ⟨fun _ => none, ?_, fun i hi => rfl⟩
    rw [psT_3 h5 hw, K7 q28 (List.mem_append_right _ (List.mem_singleton.mpr rfl)) (nh q28 (by simp)), hf7, va_up_at]
  · refine ⟨fun i hi => ?_, fun i j hi hj z => ?_, ?_, ?_⟩
    · rcases (show i = 0 ∨ i = 1 by omega) with rfl | rfl
      · show psA _ 4 ∈ _; rw [psT_4 h5 hw]; exact nin _ (by simp)
      · show psA _ 5 ∈ _; rw [psT_5 h5 hw]; exact nin _ (by simp)
    · have := psA_inj nd hlen (n := 4 + i) (m := 4 + j) (by omega) (by omega) z; omega
    · show f11 (psA _ 4) = dO (wA (psA _) 4) _ _ _ _ _ _
      rw [psT_4 h5 hw]
      show f11 q35 = .inr (2, [.ref (psA _ 5), .int 0, .int 0, .int 0, .int 0, .int 0, .int 0])
      rw [psT_5 h5 hw, hf11, va_up_of _ (nh q35 (by simp))]; exact e35
    · show f11 (psA _ 5) = _; rw [psT_5 h5 hw, hf11, va_up_of _ (nh cd (by simp))]; exact ecd
  · refine isWS_a (a := wsB (q5 :: N2) 0) (isWS_mv W5 (fun x hx => ?_) (fun i hi => ?_)) (fun i hi => psT_now h5 i hi)
    · rw [← hLc]; exact List.mem_append_left _ (List.mem_append_left _ (List.mem_append_left _ (m5 x hx)))
    · have hm := wsB_in (T := q5 :: N2) (b := 0) (by rw [List.length_cons, h5]; decide) i hi
      exact K2 _ (W5.1 i hi) (nh _ (List.mem_append_left _ hm))
  · intro j hj
    refine isWS_a (a := wsB Ws (27 * j)) (isWS_mv (hb5 j hj) (fun x hx => ?_) (fun i hi => ?_)) (fun i hi => psT_ring h5 hw j i hj hi)
    · rw [← hLc]; exact List.mem_append_left _ (List.mem_append_left _ (List.mem_append_left _ hx))
    · have hm := wsB_in (T := Ws) (b := 27 * j) (by omega) i hi
      exact K5 _ ((hb5 j hj).1 i hi) (nh _ (by simp [hm]))
  · intro i hi w hw2; cases hw2
  · intro x hx hn
    exact (K2 x (m2 x hx) hn).trans (k2 x hx)
