def zIn (i : Nat) : Nat → Int32 := fun j => if 215 ≤ j ∧ j < 215 + i then -6 else (upd (upd (upd (upd (upd (upd (upd (upd (upd (fun _ => 0) 1 1) 2 2) 3 8) 4 120) 5 3) (11 + 0) 20) (11 + 1) 20) (11 + 2) 20) (11 + 3) 20) j
theorem zIn_0 : zIn 0 = (upd (upd (upd (upd (upd (upd (upd (upd (upd (fun _ => 0) 1 1) 2 2) 3 8) 4 120) 5 3) (11 + 0) 20) (11 + 1) 20) (11 + 2) 20) (11 + 3) 20) := by
  funext j
  exact if_neg (by omega)
theorem zIn_s (i : Nat) : upd (zIn i) (215 + i) (-6) = zIn (i + 1) := by
  funext j
  show (if j = 215 + i then _ else zIn i j) = _
  unfold zIn
  by_cases h : j = 215 + i
  · rw [if_pos h, if_pos (by omega)]
  · rw [if_neg h]
    by_cases h2 : 215 ≤ j ∧ j < 215 + i
    · rw [if_pos h2, if_pos (by omega)]
    · rw [if_neg h2, if_neg (by omega)]
def mIni : MS := (fun r => if r = 0 then zIn 105 else fun _ => 0, fun _ => 0)
theorem kdN_X7_init : yX7_init.cls ≠ "java/lang/invoke/MethodHandle" ∧ yX7_init.cls ≠ "java/lang/invoke/VarHandle" ∧ (parseMethodDescriptor yX7_init.desc).map (fun d => d.parameters.length) = some 0 := by decide +kernel
theorem kdV_X7_init : yX7_init.cls = RX7 ∧ yX7_init.cls ≠ "java/lang/invoke/MethodHandle" ∧ yX7_init.cls ≠ "java/lang/invoke/VarHandle" ∧ (parseMethodDescriptor yX7_init.desc).map (fun d => d.parameters.length) = some 0 := ⟨rfl, kdN_X7_init⟩
theorem wd_X7_init_oi : Cond.methodLink RX7 1 objectInit ∈ wsX7_init := by decide +kernel
theorem wd_X7_init_oj : Cond.instanceMethod objectInit ∈ wsX7_init := by decide +kernel
theorem wd_X7_init_ok : Cond.code objectInit ⟨#[0xb1]⟩ 1 none ∈ wsX7_init := by decide +kernel
theorem wd_X7_init_arrint : Cond.arrayClass .int ∈ wsX7_init := by decide +kernel
theorem in_X7_init_7 : ∀ w ∈ u_ws RX7 TX7 13, w ∈ wsX7_init := by decide +kernel
theorem fl_X7_init_7 : Cond.fieldLink RX7 7 (TX7 0).1 (TX7 0).2.1 (TX7 0).2.2.1 ∈ wsX7_init := by decide +kernel
theorem fl_X7_init_13 : Cond.fieldLink RX7 13 (TX7 1).1 (TX7 1).2.1 (TX7 1).2.2.1 ∈ wsX7_init := by decide +kernel
theorem fl_X7_init_16 : Cond.fieldLink RX7 16 (TX7 3).1 (TX7 3).2.1 (TX7 3).2.2.1 ∈ wsX7_init := by decide +kernel
theorem wd_X7_init_arrboolean : Cond.arrayClass .boolean ∈ wsX7_init := by decide +kernel
theorem fl_X7_init_19 : Cond.fieldLink RX7 19 (TX7 4).1 (TX7 4).2.1 (TX7 4).2.2.1 ∈ wsX7_init := by decide +kernel
theorem fl_X7_init_23 : Cond.fieldLink RX7 23 (TX7 5).1 (TX7 5).2.1 (TX7 5).2.2.1 ∈ wsX7_init := by decide +kernel
abbrev rmX7_init : Room := { frames := 1, cells := 5, slots := 2962, locals := 12 }
set_option maxHeartbeats 4000000 in
set_option maxRecDepth 100000 in
theorem k_X7_init (l : Launch) {k : gK} {L : List Nat} {f : Nat → va_E} (hL : L.Nodup) {h : Nat} (hh : h ∈ L) (hf : f h = .inr (7, [.null, .null, .int 0, .null, .null, .null, .int 0, .int 0, .int 0, .int 0, .int 0, .int 0, .int 0])) : kA l k L f yX7_init wsX7_init rmX7_init [.ref h] 5 2962 (fun v N f2 => v = none ∧ ∃ a1 a2 a3 a4 a5, N = [a1, a2, a3, a4, a5] ∧ isMS k (L ++ N) f2 (fun i => [h, a1, a2, a3, a4, a5].getD i 0) mIni ∧ ∀ x ∈ L, x ≠ h → f2 x = f x) := by
  refine kA_of (cc := cX7_init) (maxL := 2) (ret := none) hL (by decide) rfl (Nat.le_of_ble_eq_true rfl) ?_
  intro p e s m args below meth c C hr hin hAO hD
  have hA : ∀ q, s.heap.size ≤ q → q ∈ L ∨ s.heap.size ≤ q := fun _ h => Or.inr h
  have m_h := hh
  have e_h := hf
  have inc : ∀ x ∈ L, x ∈ L := fun _ h => h
  have fr : ∀ x ∈ L, x ≠ h → f x = f x := fun _ _ _ => rfl
  refine gx_lv [(0, _)] [0] rfl ?_
  refine gx_aload_n (q := 0) C dX7_init_0 rfl ?_
  refine gx_objInit C wd_X7_init_oi wd_X7_init_oj wd_X7_init_ok (Nat.le_of_ble_eq_true rfl) (Nat.le_of_ble_eq_true rfl) dX7_init_1 ?_
  refine gx_aload_n (q := 0) C dX7_init_4 rfl ?_
  refine gx_sipush (v := 320) C dX7_init_5 (by decide) ?_
  refine gx_newI C hD hA (N := 320) wd_X7_init_arrint (by decide) rfl (Nat.le_of_ble_eq_true rfl) (Nat.le_of_ble_eq_true rfl) (Nat.le_of_ble_eq_true rfl) dX7_init_8 (fun q8 hD_q8 => ?_)
  refine gx_gen (fun f_1 hf_1 => ?_)
  have n_h_q8 := gD_ne hD_q8 m_h (List.mem_singleton.mpr rfl)
  have nL_q8 : ∀ x ∈ L, x ≠ q8 := fun x hx => gD_ne hD_q8 (inc x hx) (List.mem_singleton.mpr rfl)
  have e_h := (show f_1 h = f h by rw [hf_1, va_up_of _ n_h_q8]).trans e_h
  have m_h := List.mem_append_left [q8] m_h
  have fr : ∀ x ∈ L, x ≠ h → f_1 x = f x := fun x hx hne => (show f_1 x = f x by rw [hf_1, va_up_of _ (nL_q8 x hx)]).trans (fr x hx hne)
  have inc : ∀ x ∈ L, x ∈ (L ++ [q8]) := fun x hx => List.mem_append_left _ (inc x hx)
  have m_q8 : q8 ∈ (L ++ [q8]) := List.mem_append_right _ (List.mem_singleton.mpr rfl)
  have e_q8 : f_1 q8 = gIA k 320 (fun _ => 0) := by rw [hf_1, va_up_at]
  refine gx_putF C hD_q8 (i := 0) (ty := (.array .int)) tyX7_ok nmX7 m_h e_h rfl in_X7_init_7 (by decide) fl_X7_init_7 rfl hin rfl (by decide +kernel) rfl rfl (Nat.le_of_ble_eq_true rfl) rfl dX7_init_10 ?_
  refine gx_gen (fun f_2 hf_2 => ?_)
  have e_q8 := (show f_2 q8 = f_1 q8 by rw [hf_2, va_up_of _ (Ne.symm n_h_q8)]).trans e_q8
  have fr : ∀ x ∈ L, x ≠ h → f_2 x = f x := fun x hx hne => (show f_2 x = f_1 x by rw [hf_2, va_up_of _ hne]).trans (fr x hx hne)
  have e_h : f_2 h = .inr (7, [.ref q8, .null, .int 0, .null, .null, .null, .int 0, .int 0, .int 0, .int 0, .int 0, .int 0, .int 0]) := by rw [hf_2, va_up_at] <;> rfl
  refine gx_aload_n (q := 0) C dX7_init_13 rfl ?_
  refine gx_sipush (v := 1920) C dX7_init_14 (by decide) ?_
  refine gx_newI C hD_q8 hA (N := 1920) wd_X7_init_arrint (by decide) rfl (Nat.le_of_ble_eq_true rfl) (Nat.le_of_ble_eq_true rfl) (Nat.le_of_ble_eq_true rfl) dX7_init_17 (fun q17 hD_q17 => ?_)
  refine gx_gen (fun f_3 hf_3 => ?_)
  have n_h_q17 := gD_ne hD_q17 m_h (List.mem_singleton.mpr rfl)
  have n_q8_q17 := gD_ne hD_q17 m_q8 (List.mem_singleton.mpr rfl)
  have nL_q17 : ∀ x ∈ L, x ≠ q17 := fun x hx => gD_ne hD_q17 (inc x hx) (List.mem_singleton.mpr rfl)
  have e_h := (show f_3 h = f_2 h by rw [hf_3, va_up_of _ n_h_q17]).trans e_h
  have m_h := List.mem_append_left [q17] m_h
  have e_q8 := (show f_3 q8 = f_2 q8 by rw [hf_3, va_up_of _ n_q8_q17]).trans e_q8
  have m_q8 := List.mem_append_left [q17] m_q8
  have fr : ∀ x ∈ L, x ≠ h → f_3 x = f x := fun x hx hne => (show f_3 x = f_2 x by rw [hf_3, va_up_of _ (nL_q17 x hx)]).trans (fr x hx hne)
  have inc : ∀ x ∈ L, x ∈ ((L ++ [q8]) ++ [q17]) := fun x hx => List.mem_append_left _ (inc x hx)
  have m_q17 : q17 ∈ ((L ++ [q8]) ++ [q17]) := List.mem_append_right _ (List.mem_singleton.mpr rfl)
  have e_q17 : f_3 q17 = gIA k 1920 (fun _ => 0) := by rw [hf_3, va_up_at]
  refine gx_putF C hD_q17 (i := 1) (ty := (.array .int)) tyX7_ok nmX7 m_h e_h rfl in_X7_init_7 (by decide) fl_X7_init_13 rfl hin rfl (by decide +kernel) rfl rfl (Nat.le_of_ble_eq_true rfl) rfl dX7_init_19 ?_
  refine gx_gen (fun f_4 hf_4 => ?_)
  have e_q8 := (show f_4 q8 = f_3 q8 by rw [hf_4, va_up_of _ (Ne.symm n_h_q8)]).trans e_q8
  have e_q17 := (show f_4 q17 = f_3 q17 by rw [hf_4, va_up_of _ (Ne.symm n_h_q17)]).trans e_q17
  have fr : ∀ x ∈ L, x ≠ h → f_4 x = f x := fun x hx hne => (show f_4 x = f_3 x by rw [hf_4, va_up_of _ hne]).trans (fr x hx hne)
  have e_h : f_4 h = .inr (7, [.ref q8, .ref q17, .int 0, .null, .null, .null, .int 0, .int 0, .int 0, .int 0, .int 0, .int 0, .int 0]) := by rw [hf_4, va_up_at] <;> rfl
  refine gx_aload_n (q := 0) C dX7_init_22 rfl ?_
  refine gx_sipush (v := 640) C dX7_init_23 (by decide) ?_
  refine gx_newI C hD_q17 hA (N := 640) wd_X7_init_arrint (by decide) rfl (Nat.le_of_ble_eq_true rfl) (Nat.le_of_ble_eq_true rfl) (Nat.le_of_ble_eq_true rfl) dX7_init_26 (fun q26 hD_q26 => ?_)
  refine gx_gen (fun f_5 hf_5 => ?_)
  have n_h_q26 := gD_ne hD_q26 m_h (List.mem_singleton.mpr rfl)
  have n_q8_q26 := gD_ne hD_q26 m_q8 (List.mem_singleton.mpr rfl)
  have n_q17_q26 := gD_ne hD_q26 m_q17 (List.mem_singleton.mpr rfl)
  have nL_q26 : ∀ x ∈ L, x ≠ q26 := fun x hx => gD_ne hD_q26 (inc x hx) (List.mem_singleton.mpr rfl)
  have e_h := (show f_5 h = f_4 h by rw [hf_5, va_up_of _ n_h_q26]).trans e_h
  have m_h := List.mem_append_left [q26] m_h
  have e_q8 := (show f_5 q8 = f_4 q8 by rw [hf_5, va_up_of _ n_q8_q26]).trans e_q8
  have m_q8 := List.mem_append_left [q26] m_q8
  have e_q17 := (show f_5 q17 = f_4 q17 by rw [hf_5, va_up_of _ n_q17_q26]).trans e_q17
  have m_q17 := List.mem_append_left [q26] m_q17
  have fr : ∀ x ∈ L, x ≠ h → f_5 x = f x := fun x hx hne => (show f_5 x = f_4 x by rw [hf_5, va_up_of _ (nL_q26 x hx)]).trans (fr x hx hne)
  have inc : ∀ x ∈ L, x ∈ (((L ++ [q8]) ++ [q17]) ++ [q26]) := fun x hx => List.mem_append_left _ (inc x hx)
  have m_q26 : q26 ∈ (((L ++ [q8]) ++ [q17]) ++ [q26]) := List.mem_append_right _ (List.mem_singleton.mpr rfl)
  have e_q26 : f_5 q26 = gIA k 640 (fun _ => 0) := by rw [hf_5, va_up_at]
  refine gx_putF C hD_q26 (i := 3) (ty := (.array .int)) tyX7_ok nmX7 m_h e_h rfl in_X7_init_7 (by decide) fl_X7_init_16 rfl hin rfl (by decide +kernel) rfl rfl (Nat.le_of_ble_eq_true rfl) rfl dX7_init_28 ?_
  refine gx_gen (fun f_6 hf_6 => ?_)
  have e_q8 := (show f_6 q8 = f_5 q8 by rw [hf_6, va_up_of _ (Ne.symm n_h_q8)]).trans e_q8
  have e_q17 := (show f_6 q17 = f_5 q17 by rw [hf_6, va_up_of _ (Ne.symm n_h_q17)]).trans e_q17
  have e_q26 := (show f_6 q26 = f_5 q26 by rw [hf_6, va_up_of _ (Ne.symm n_h_q26)]).trans e_q26
  have fr : ∀ x ∈ L, x ≠ h → f_6 x = f x := fun x hx hne => (show f_6 x = f_5 x by rw [hf_6, va_up_of _ hne]).trans (fr x hx hne)
  have e_h : f_6 h = .inr (7, [.ref q8, .ref q17, .int 0, .ref q26, .null, .null, .int 0, .int 0, .int 0, .int 0, .int 0, .int 0, .int 0]) := by rw [hf_6, va_up_at] <;> rfl
  refine gx_aload_n (q := 0) C dX7_init_31 rfl ?_
  refine gx_iconst (v := 2) C dX7_init_32 (by decide) ?_
  refine gx_newZ C hD_q26 hA (N := 2) wd_X7_init_arrboolean (by decide) rfl (Nat.le_of_ble_eq_true rfl) (Nat.le_of_ble_eq_true rfl) (Nat.le_of_ble_eq_true rfl) dX7_init_33 (fun q33 hD_q33 => ?_)
  refine gx_gen (fun f_7 hf_7 => ?_)
  have n_h_q33 := gD_ne hD_q33 m_h (List.mem_singleton.mpr rfl)
  have n_q8_q33 := gD_ne hD_q33 m_q8 (List.mem_singleton.mpr rfl)
  have n_q17_q33 := gD_ne hD_q33 m_q17 (List.mem_singleton.mpr rfl)
  have n_q26_q33 := gD_ne hD_q33 m_q26 (List.mem_singleton.mpr rfl)
  have nL_q33 : ∀ x ∈ L, x ≠ q33 := fun x hx => gD_ne hD_q33 (inc x hx) (List.mem_singleton.mpr rfl)
  have e_h := (show f_7 h = f_6 h by rw [hf_7, va_up_of _ n_h_q33]).trans e_h
  have m_h := List.mem_append_left [q33] m_h
  have e_q8 := (show f_7 q8 = f_6 q8 by rw [hf_7, va_up_of _ n_q8_q33]).trans e_q8
  have m_q8 := List.mem_append_left [q33] m_q8
  have e_q17 := (show f_7 q17 = f_6 q17 by rw [hf_7, va_up_of _ n_q17_q33]).trans e_q17
  have m_q17 := List.mem_append_left [q33] m_q17
  have e_q26 := (show f_7 q26 = f_6 q26 by rw [hf_7, va_up_of _ n_q26_q33]).trans e_q26
  have m_q26 := List.mem_append_left [q33] m_q26
  have fr : ∀ x ∈ L, x ≠ h → f_7 x = f x := fun x hx hne => (show f_7 x = f_6 x by rw [hf_7, va_up_of _ (nL_q33 x hx)]).trans (fr x hx hne)
  have inc : ∀ x ∈ L, x ∈ ((((L ++ [q8]) ++ [q17]) ++ [q26]) ++ [q33]) := fun x hx => List.mem_append_left _ (inc x hx)
  have m_q33 : q33 ∈ ((((L ++ [q8]) ++ [q17]) ++ [q26]) ++ [q33]) := List.mem_append_right _ (List.mem_singleton.mpr rfl)
  have e_q33 : f_7 q33 = gZA k 2 (fun _ => 0) := by rw [hf_7, va_up_at]
  refine gx_putF C hD_q33 (i := 4) (ty := (.array .boolean)) tyX7_ok nmX7 m_h e_h rfl in_X7_init_7 (by decide) fl_X7_init_19 rfl hin rfl (by decide +kernel) rfl rfl (Nat.le_of_ble_eq_true rfl) rfl dX7_init_35 ?_
  refine gx_gen (fun f_8 hf_8 => ?_)
  have e_q8 := (show f_8 q8 = f_7 q8 by rw [hf_8, va_up_of _ (Ne.symm n_h_q8)]).trans e_q8
  have e_q17 := (show f_8 q17 = f_7 q17 by rw [hf_8, va_up_of _ (Ne.symm n_h_q17)]).trans e_q17
  have e_q26 := (show f_8 q26 = f_7 q26 by rw [hf_8, va_up_of _ (Ne.symm n_h_q26)]).trans e_q26
  have e_q33 := (show f_8 q33 = f_7 q33 by rw [hf_8, va_up_of _ (Ne.symm n_h_q33)]).trans e_q33
  have fr : ∀ x ∈ L, x ≠ h → f_8 x = f x := fun x hx hne => (show f_8 x = f_7 x by rw [hf_8, va_up_of _ hne]).trans (fr x hx hne)
  have e_h : f_8 h = .inr (7, [.ref q8, .ref q17, .int 0, .ref q26, .ref q33, .null, .int 0, .int 0, .int 0, .int 0, .int 0, .int 0, .int 0]) := by rw [hf_8, va_up_at] <;> rfl
  refine gx_aload_n (q := 0) C dX7_init_38 rfl ?_
  refine gx_bipush (v := 80) C dX7_init_39 (by decide) ?_
  refine gx_newI C hD_q33 hA (N := 80) wd_X7_init_arrint (by decide) rfl (Nat.le_of_ble_eq_true rfl) (Nat.le_of_ble_eq_true rfl) (Nat.le_of_ble_eq_true rfl) dX7_init_41 (fun q41 hD_q41 => ?_)
  refine gx_gen (fun f_9 hf_9 => ?_)
  have n_h_q41 := gD_ne hD_q41 m_h (List.mem_singleton.mpr rfl)
  have n_q8_q41 := gD_ne hD_q41 m_q8 (List.mem_singleton.mpr rfl)
  have n_q17_q41 := gD_ne hD_q41 m_q17 (List.mem_singleton.mpr rfl)
  have n_q26_q41 := gD_ne hD_q41 m_q26 (List.mem_singleton.mpr rfl)
  have n_q33_q41 := gD_ne hD_q41 m_q33 (List.mem_singleton.mpr rfl)
  have nL_q41 : ∀ x ∈ L, x ≠ q41 := fun x hx => gD_ne hD_q41 (inc x hx) (List.mem_singleton.mpr rfl)
  have e_h := (show f_9 h = f_8 h by rw [hf_9, va_up_of _ n_h_q41]).trans e_h
  have m_h := List.mem_append_left [q41] m_h
  have e_q8 := (show f_9 q8 = f_8 q8 by rw [hf_9, va_up_of _ n_q8_q41]).trans e_q8
  have m_q8 := List.mem_append_left [q41] m_q8
  have e_q17 := (show f_9 q17 = f_8 q17 by rw [hf_9, va_up_of _ n_q17_q41]).trans e_q17
  have m_q17 := List.mem_append_left [q41] m_q17
  have e_q26 := (show f_9 q26 = f_8 q26 by rw [hf_9, va_up_of _ n_q26_q41]).trans e_q26
  have m_q26 := List.mem_append_left [q41] m_q26
  have e_q33 := (show f_9 q33 = f_8 q33 by rw [hf_9, va_up_of _ n_q33_q41]).trans e_q33
  have m_q33 := List.mem_append_left [q41] m_q33
  have fr : ∀ x ∈ L, x ≠ h → f_9 x = f x := fun x hx hne => (show f_9 x = f_8 x by rw [hf_9, va_up_of _ (nL_q41 x hx)]).trans (fr x hx hne)
  have inc : ∀ x ∈ L, x ∈ (((((L ++ [q8]) ++ [q17]) ++ [q26]) ++ [q33]) ++ [q41]) := fun x hx => List.mem_append_left _ (inc x hx)
  have m_q41 : q41 ∈ (((((L ++ [q8]) ++ [q17]) ++ [q26]) ++ [q33]) ++ [q41]) := List.mem_append_right _ (List.mem_singleton.mpr rfl)
  have e_q41 : f_9 q41 = gIA k 80 (fun _ => 0) := by rw [hf_9, va_up_at]
  refine gx_putF C hD_q41 (i := 5) (ty := (.array .int)) tyX7_ok nmX7 m_h e_h rfl in_X7_init_7 (by decide) fl_X7_init_23 rfl hin rfl (by decide +kernel) rfl rfl (Nat.le_of_ble_eq_true rfl) rfl dX7_init_43 ?_
  refine gx_gen (fun f_10 hf_10 => ?_)
  have e_q8 := (show f_10 q8 = f_9 q8 by rw [hf_10, va_up_of _ (Ne.symm n_h_q8)]).trans e_q8
  have e_q17 := (show f_10 q17 = f_9 q17 by rw [hf_10, va_up_of _ (Ne.symm n_h_q17)]).trans e_q17
  have e_q26 := (show f_10 q26 = f_9 q26 by rw [hf_10, va_up_of _ (Ne.symm n_h_q26)]).trans e_q26
  have e_q33 := (show f_10 q33 = f_9 q33 by rw [hf_10, va_up_of _ (Ne.symm n_h_q33)]).trans e_q33
  have e_q41 := (show f_10 q41 = f_9 q41 by rw [hf_10, va_up_of _ (Ne.symm n_h_q41)]).trans e_q41
  have fr : ∀ x ∈ L, x ≠ h → f_10 x = f x := fun x hx hne => (show f_10 x = f_9 x by rw [hf_10, va_up_of _ hne]).trans (fr x hx hne)
  have e_h : f_10 h = .inr (7, [.ref q8, .ref q17, .int 0, .ref q26, .ref q33, .ref q41, .int 0, .int 0, .int 0, .int 0, .int 0, .int 0, .int 0]) := by rw [hf_10, va_up_at] <;> rfl
  refine gx_aload_n (q := 0) C dX7_init_46 rfl ?_
  refine gx_get C (i := 0) m_h e_h rfl in_X7_init_7 (by decide) fl_X7_init_7 rfl dX7_init_47 ?_
  refine gx_iconst (v := 1) C dX7_init_50 (by decide) ?_
  refine gx_iconst (v := 1) C dX7_init_51 (by decide) ?_
  refine gx_iastN C hD_q41 m_q8 e_q8 (nLit 1) (Nat.le_of_ble_eq_true rfl) (by decide) dX7_init_52 ?_
  refine gx_gen (fun f_11 hf_11 => ?_)
  have e_h := (show f_11 h = f_10 h by rw [hf_11, va_up_of _ n_h_q8]).trans e_h
  have e_q17 := (show f_11 q17 = f_10 q17 by rw [hf_11, va_up_of _ (Ne.symm n_q8_q17)]).trans e_q17
  have e_q26 := (show f_11 q26 = f_10 q26 by rw [hf_11, va_up_of _ (Ne.symm n_q8_q26)]).trans e_q26
  have e_q33 := (show f_11 q33 = f_10 q33 by rw [hf_11, va_up_of _ (Ne.symm n_q8_q33)]).trans e_q33
  have e_q41 := (show f_11 q41 = f_10 q41 by rw [hf_11, va_up_of _ (Ne.symm n_q8_q41)]).trans e_q41
  have fr : ∀ x ∈ L, x ≠ h → f_11 x = f x := fun x hx hne => (show f_11 x = f_10 x by rw [hf_11, va_up_of _ (nL_q8 x hx)]).trans (fr x hx hne)
  have e_q8 : f_11 q8 = gIA k 320 (upd (fun _ => 0) 1 1) := by rw [hf_11, va_up_at] <;> rfl
  refine gx_aload_n (q := 0) C dX7_init_53 rfl ?_
  refine gx_get C (i := 0) m_h e_h rfl in_X7_init_7 (by decide) fl_X7_init_7 rfl dX7_init_54 ?_
  refine gx_iconst (v := 2) C dX7_init_57 (by decide) ?_
  refine gx_iconst (v := 2) C dX7_init_58 (by decide) ?_
  refine gx_iastN C hD_q41 m_q8 e_q8 (nLit 2) (Nat.le_of_ble_eq_true rfl) (by decide) dX7_init_59 ?_
  refine gx_gen (fun f_12 hf_12 => ?_)
  have e_h := (show f_12 h = f_11 h by rw [hf_12, va_up_of _ n_h_q8]).trans e_h
  have e_q17 := (show f_12 q17 = f_11 q17 by rw [hf_12, va_up_of _ (Ne.symm n_q8_q17)]).trans e_q17
  have e_q26 := (show f_12 q26 = f_11 q26 by rw [hf_12, va_up_of _ (Ne.symm n_q8_q26)]).trans e_q26
  have e_q33 := (show f_12 q33 = f_11 q33 by rw [hf_12, va_up_of _ (Ne.symm n_q8_q33)]).trans e_q33
  have e_q41 := (show f_12 q41 = f_11 q41 by rw [hf_12, va_up_of _ (Ne.symm n_q8_q41)]).trans e_q41
  have fr : ∀ x ∈ L, x ≠ h → f_12 x = f x := fun x hx hne => (show f_12 x = f_11 x by rw [hf_12, va_up_of _ (nL_q8 x hx)]).trans (fr x hx hne)
  have e_q8 : f_12 q8 = gIA k 320 (upd (upd (fun _ => 0) 1 1) 2 2) := by rw [hf_12, va_up_at] <;> rfl
  refine gx_aload_n (q := 0) C dX7_init_60 rfl ?_
  refine gx_get C (i := 0) m_h e_h rfl in_X7_init_7 (by decide) fl_X7_init_7 rfl dX7_init_61 ?_
  refine gx_iconst (v := 3) C dX7_init_64 (by decide) ?_
  refine gx_bipush (v := 8) C dX7_init_65 (by decide) ?_
  refine gx_iastN C hD_q41 m_q8 e_q8 (nLit 3) (Nat.le_of_ble_eq_true rfl) (by decide) dX7_init_67 ?_
  refine gx_gen (fun f_13 hf_13 => ?_)
  have e_h := (show f_13 h = f_12 h by rw [hf_13, va_up_of _ n_h_q8]).trans e_h
  have e_q17 := (show f_13 q17 = f_12 q17 by rw [hf_13, va_up_of _ (Ne.symm n_q8_q17)]).trans e_q17
  have e_q26 := (show f_13 q26 = f_12 q26 by rw [hf_13, va_up_of _ (Ne.symm n_q8_q26)]).trans e_q26
  have e_q33 := (show f_13 q33 = f_12 q33 by rw [hf_13, va_up_of _ (Ne.symm n_q8_q33)]).trans e_q33
  have e_q41 := (show f_13 q41 = f_12 q41 by rw [hf_13, va_up_of _ (Ne.symm n_q8_q41)]).trans e_q41
  have fr : ∀ x ∈ L, x ≠ h → f_13 x = f x := fun x hx hne => (show f_13 x = f_12 x by rw [hf_13, va_up_of _ (nL_q8 x hx)]).trans (fr x hx hne)
  have e_q8 : f_13 q8 = gIA k 320 (upd (upd (upd (fun _ => 0) 1 1) 2 2) 3 8) := by rw [hf_13, va_up_at] <;> rfl
  refine gx_aload_n (q := 0) C dX7_init_68 rfl ?_
  refine gx_get C (i := 0) m_h e_h rfl in_X7_init_7 (by decide) fl_X7_init_7 rfl dX7_init_69 ?_
  refine gx_iconst (v := 4) C dX7_init_72 (by decide) ?_
  refine gx_bipush (v := 120) C dX7_init_73 (by decide) ?_
  refine gx_iastN C hD_q41 m_q8 e_q8 (nLit 4) (Nat.le_of_ble_eq_true rfl) (by decide) dX7_init_75 ?_
  refine gx_gen (fun f_14 hf_14 => ?_)
  have e_h := (show f_14 h = f_13 h by rw [hf_14, va_up_of _ n_h_q8]).trans e_h
  have e_q17 := (show f_14 q17 = f_13 q17 by rw [hf_14, va_up_of _ (Ne.symm n_q8_q17)]).trans e_q17
  have e_q26 := (show f_14 q26 = f_13 q26 by rw [hf_14, va_up_of _ (Ne.symm n_q8_q26)]).trans e_q26
  have e_q33 := (show f_14 q33 = f_13 q33 by rw [hf_14, va_up_of _ (Ne.symm n_q8_q33)]).trans e_q33
  have e_q41 := (show f_14 q41 = f_13 q41 by rw [hf_14, va_up_of _ (Ne.symm n_q8_q41)]).trans e_q41
  have fr : ∀ x ∈ L, x ≠ h → f_14 x = f x := fun x hx hne => (show f_14 x = f_13 x by rw [hf_14, va_up_of _ (nL_q8 x hx)]).trans (fr x hx hne)
  have e_q8 : f_14 q8 = gIA k 320 (upd (upd (upd (upd (fun _ => 0) 1 1) 2 2) 3 8) 4 120) := by rw [hf_14, va_up_at] <;> rfl
  refine gx_aload_n (q := 0) C dX7_init_76 rfl ?_
  refine gx_get C (i := 0) m_h e_h rfl in_X7_init_7 (by decide) fl_X7_init_7 rfl dX7_init_77 ?_
  refine gx_iconst (v := 5) C dX7_init_80 (by decide) ?_
  refine gx_iconst (v := 3) C dX7_init_81 (by decide) ?_
  refine gx_iastN C hD_q41 m_q8 e_q8 (nLit 5) (Nat.le_of_ble_eq_true rfl) (by decide) dX7_init_82 ?_
  refine gx_gen (fun f_15 hf_15 => ?_)
  have e_h := (show f_15 h = f_14 h by rw [hf_15, va_up_of _ n_h_q8]).trans e_h
  have e_q17 := (show f_15 q17 = f_14 q17 by rw [hf_15, va_up_of _ (Ne.symm n_q8_q17)]).trans e_q17
  have e_q26 := (show f_15 q26 = f_14 q26 by rw [hf_15, va_up_of _ (Ne.symm n_q8_q26)]).trans e_q26
  have e_q33 := (show f_15 q33 = f_14 q33 by rw [hf_15, va_up_of _ (Ne.symm n_q8_q33)]).trans e_q33
  have e_q41 := (show f_15 q41 = f_14 q41 by rw [hf_15, va_up_of _ (Ne.symm n_q8_q41)]).trans e_q41
  have fr : ∀ x ∈ L, x ≠ h → f_15 x = f x := fun x hx hne => (show f_15 x = f_14 x by rw [hf_15, va_up_of _ (nL_q8 x hx)]).trans (fr x hx hne)
  have e_q8 : f_15 q8 = gIA k 320 (upd (upd (upd (upd (upd (fun _ => 0) 1 1) 2 2) 3 8) 4 120) 5 3) := by rw [hf_15, va_up_at] <;> rfl
  refine gx_iconst (v := 0) C dX7_init_83 (by decide) ?_
  refine gx_istore_n C (i := 1) [(1, _), (0, _)] dX7_init_84 rfl (by decide) rfl ?_
  refine gx_iload_n (q := 0) C dX7_init_85 rfl ?_
  refine gx_iconst (v := 4) C dX7_init_86 (by decide) ?_
  refine gx_icmp_ge (tgt := 107) C dX7_init_87 (by decide) (fun c_87 => ?_) (fun c_87 => ?_)
  exact absurd c_87 (by decide)
  refine gx_aload_n (q := 1) C dX7_init_90 rfl ?_
  refine gx_get C (i := 0) m_h e_h rfl in_X7_init_7 (by decide) fl_X7_init_7 rfl dX7_init_91 ?_
  refine gx_bipush (v := 11) C dX7_init_94 (by decide) ?_
  refine gx_iload_n (q := 0) C dX7_init_96 rfl ?_
  refine gx_iadd C dX7_init_97 ?_
  refine gx_bipush (v := 20) C dX7_init_98 (by decide) ?_
  refine gx_iastN C hD_q41 m_q8 e_q8 (nAdd (nLit 11) (nLit 0)) (Nat.le_of_ble_eq_true rfl) (by decide) dX7_init_100 ?_
  refine gx_gen (fun f_16 hf_16 => ?_)
  have e_h := (show f_16 h = f_15 h by rw [hf_16, va_up_of _ n_h_q8]).trans e_h
  have e_q17 := (show f_16 q17 = f_15 q17 by rw [hf_16, va_up_of _ (Ne.symm n_q8_q17)]).trans e_q17
  have e_q26 := (show f_16 q26 = f_15 q26 by rw [hf_16, va_up_of _ (Ne.symm n_q8_q26)]).trans e_q26
  have e_q33 := (show f_16 q33 = f_15 q33 by rw [hf_16, va_up_of _ (Ne.symm n_q8_q33)]).trans e_q33
  have e_q41 := (show f_16 q41 = f_15 q41 by rw [hf_16, va_up_of _ (Ne.symm n_q8_q41)]).trans e_q41
  have fr : ∀ x ∈ L, x ≠ h → f_16 x = f x := fun x hx hne => (show f_16 x = f_15 x by rw [hf_16, va_up_of _ (nL_q8 x hx)]).trans (fr x hx hne)
  have e_q8 : f_16 q8 = gIA k 320 (upd (upd (upd (upd (upd (upd (fun _ => 0) 1 1) 2 2) 3 8) 4 120) 5 3) (11 + 0) 20) := by rw [hf_16, va_up_at] <;> rfl
  refine gx_iinc C (q := 0) (v := 1) [(1, _), (0, _)] dX7_init_101 rfl (by decide) (by decide) rfl ?_
  refine gx_goto (tgt := 85) C dX7_init_104 (by decide) ?_
  refine gx_iload_n (q := 0) C dX7_init_85 rfl ?_
  refine gx_iconst (v := 4) C dX7_init_86 (by decide) ?_
  refine gx_icmp_ge (tgt := 107) C dX7_init_87 (by decide) (fun c_87_1 => ?_) (fun c_87_1 => ?_)
  exact absurd c_87_1 (by decide)
  refine gx_aload_n (q := 1) C dX7_init_90 rfl ?_
  refine gx_get C (i := 0) m_h e_h rfl in_X7_init_7 (by decide) fl_X7_init_7 rfl dX7_init_91 ?_
  refine gx_bipush (v := 11) C dX7_init_94 (by decide) ?_
  refine gx_iload_n (q := 0) C dX7_init_96 rfl ?_
  refine gx_iadd C dX7_init_97 ?_
  refine gx_bipush (v := 20) C dX7_init_98 (by decide) ?_
  refine gx_iastN C hD_q41 m_q8 e_q8 (nAdd (nLit 11) (nLit 1)) (Nat.le_of_ble_eq_true rfl) (by decide) dX7_init_100 ?_
  refine gx_gen (fun f_17 hf_17 => ?_)
  have e_h := (show f_17 h = f_16 h by rw [hf_17, va_up_of _ n_h_q8]).trans e_h
  have e_q17 := (show f_17 q17 = f_16 q17 by rw [hf_17, va_up_of _ (Ne.symm n_q8_q17)]).trans e_q17
  have e_q26 := (show f_17 q26 = f_16 q26 by rw [hf_17, va_up_of _ (Ne.symm n_q8_q26)]).trans e_q26
  have e_q33 := (show f_17 q33 = f_16 q33 by rw [hf_17, va_up_of _ (Ne.symm n_q8_q33)]).trans e_q33
  have e_q41 := (show f_17 q41 = f_16 q41 by rw [hf_17, va_up_of _ (Ne.symm n_q8_q41)]).trans e_q41
  have fr : ∀ x ∈ L, x ≠ h → f_17 x = f x := fun x hx hne => (show f_17 x = f_16 x by rw [hf_17, va_up_of _ (nL_q8 x hx)]).trans (fr x hx hne)
  have e_q8 : f_17 q8 = gIA k 320 (upd (upd (upd (upd (upd (upd (upd (fun _ => 0) 1 1) 2 2) 3 8) 4 120) 5 3) (11 + 0) 20) (11 + 1) 20) := by rw [hf_17, va_up_at] <;> rfl
  refine gx_iinc C (q := 0) (v := 2) [(1, _), (0, _)] dX7_init_101 rfl (by decide) (by decide) rfl ?_
  refine gx_goto (tgt := 85) C dX7_init_104 (by decide) ?_
  refine gx_iload_n (q := 0) C dX7_init_85 rfl ?_
  refine gx_iconst (v := 4) C dX7_init_86 (by decide) ?_
  refine gx_icmp_ge (tgt := 107) C dX7_init_87 (by decide) (fun c_87_2 => ?_) (fun c_87_2 => ?_)
  exact absurd c_87_2 (by decide)
  refine gx_aload_n (q := 1) C dX7_init_90 rfl ?_
  refine gx_get C (i := 0) m_h e_h rfl in_X7_init_7 (by decide) fl_X7_init_7 rfl dX7_init_91 ?_
  refine gx_bipush (v := 11) C dX7_init_94 (by decide) ?_
  refine gx_iload_n (q := 0) C dX7_init_96 rfl ?_
  refine gx_iadd C dX7_init_97 ?_
  refine gx_bipush (v := 20) C dX7_init_98 (by decide) ?_
  refine gx_iastN C hD_q41 m_q8 e_q8 (nAdd (nLit 11) (nLit 2)) (Nat.le_of_ble_eq_true rfl) (by decide) dX7_init_100 ?_
  refine gx_gen (fun f_18 hf_18 => ?_)
  have e_h := (show f_18 h = f_17 h by rw [hf_18, va_up_of _ n_h_q8]).trans e_h
  have e_q17 := (show f_18 q17 = f_17 q17 by rw [hf_18, va_up_of _ (Ne.symm n_q8_q17)]).trans e_q17
  have e_q26 := (show f_18 q26 = f_17 q26 by rw [hf_18, va_up_of _ (Ne.symm n_q8_q26)]).trans e_q26
  have e_q33 := (show f_18 q33 = f_17 q33 by rw [hf_18, va_up_of _ (Ne.symm n_q8_q33)]).trans e_q33
  have e_q41 := (show f_18 q41 = f_17 q41 by rw [hf_18, va_up_of _ (Ne.symm n_q8_q41)]).trans e_q41
  have fr : ∀ x ∈ L, x ≠ h → f_18 x = f x := fun x hx hne => (show f_18 x = f_17 x by rw [hf_18, va_up_of _ (nL_q8 x hx)]).trans (fr x hx hne)
  have e_q8 : f_18 q8 = gIA k 320 (upd (upd (upd (upd (upd (upd (upd (upd (fun _ => 0) 1 1) 2 2) 3 8) 4 120) 5 3) (11 + 0) 20) (11 + 1) 20) (11 + 2) 20) := by rw [hf_18, va_up_at] <;> rfl
  refine gx_iinc C (q := 0) (v := 3) [(1, _), (0, _)] dX7_init_101 rfl (by decide) (by decide) rfl ?_
  refine gx_goto (tgt := 85) C dX7_init_104 (by decide) ?_
  refine gx_iload_n (q := 0) C dX7_init_85 rfl ?_
  refine gx_iconst (v := 4) C dX7_init_86 (by decide) ?_
  refine gx_icmp_ge (tgt := 107) C dX7_init_87 (by decide) (fun c_87_3 => ?_) (fun c_87_3 => ?_)
  exact absurd c_87_3 (by decide)
  refine gx_aload_n (q := 1) C dX7_init_90 rfl ?_
  refine gx_get C (i := 0) m_h e_h rfl in_X7_init_7 (by decide) fl_X7_init_7 rfl dX7_init_91 ?_
  refine gx_bipush (v := 11) C dX7_init_94 (by decide) ?_
  refine gx_iload_n (q := 0) C dX7_init_96 rfl ?_
  refine gx_iadd C dX7_init_97 ?_
  refine gx_bipush (v := 20) C dX7_init_98 (by decide) ?_
  refine gx_iastN C hD_q41 m_q8 e_q8 (nAdd (nLit 11) (nLit 3)) (Nat.le_of_ble_eq_true rfl) (by decide) dX7_init_100 ?_
  refine gx_gen (fun f_19 hf_19 => ?_)
  have e_h := (show f_19 h = f_18 h by rw [hf_19, va_up_of _ n_h_q8]).trans e_h
  have e_q17 := (show f_19 q17 = f_18 q17 by rw [hf_19, va_up_of _ (Ne.symm n_q8_q17)]).trans e_q17
  have e_q26 := (show f_19 q26 = f_18 q26 by rw [hf_19, va_up_of _ (Ne.symm n_q8_q26)]).trans e_q26
  have e_q33 := (show f_19 q33 = f_18 q33 by rw [hf_19, va_up_of _ (Ne.symm n_q8_q33)]).trans e_q33
  have e_q41 := (show f_19 q41 = f_18 q41 by rw [hf_19, va_up_of _ (Ne.symm n_q8_q41)]).trans e_q41
  have fr : ∀ x ∈ L, x ≠ h → f_19 x = f x := fun x hx hne => (show f_19 x = f_18 x by rw [hf_19, va_up_of _ (nL_q8 x hx)]).trans (fr x hx hne)
  have e_q8 : f_19 q8 = gIA k 320 (upd (upd (upd (upd (upd (upd (upd (upd (upd (fun _ => 0) 1 1) 2 2) 3 8) 4 120) 5 3) (11 + 0) 20) (11 + 1) 20) (11 + 2) 20) (11 + 3) 20) := by rw [hf_19, va_up_at] <;> rfl
  refine gx_iinc C (q := 0) (v := 4) [(1, _), (0, _)] dX7_init_101 rfl (by decide) (by decide) rfl ?_
  refine gx_goto (tgt := 85) C dX7_init_104 (by decide) ?_
  refine gx_iload_n (q := 0) C dX7_init_85 rfl ?_
  refine gx_iconst (v := 4) C dX7_init_86 (by decide) ?_
  refine gx_icmp_ge (tgt := 107) C dX7_init_87 (by decide) (fun c_87_4 => ?_) (fun c_87_4 => ?_)
  refine gx_iconst (v := 0) C dX7_init_107 (by decide) ?_
  refine gx_istore_n C (i := 1) [(1, _), (0, _)] dX7_init_108 rfl (by decide) rfl ?_
  refine gx_loop (σ := Nat × (Nat → va_E)) (fun z => z.2) (fun z => [(0, .ref h), (1, .int (nI z.1))]) (fun z => z.1 ≤ 105 ∧ z.2 q8 = gIA k 320 (zIn z.1) ∧ ∀ x, x ≠ q8 → z.2 x = f_19 x) (fun z => 105 - z.1) (0, f_19) [1, 0] rfl rfl ?_ ?_
  · exact ⟨Nat.zero_le _, e_q8.trans (by rw [zIn_0]), fun _ _ => rfl⟩
  intro ⟨i, f1⟩ ⟨hI, hz1, ho1⟩ ih
  try dsimp only at hI hz1 ho1 ih ⊢
  refine gx_iload_n (q := 1) C dX7_init_109 rfl ?_
  refine gx_bipush (v := 105) C dX7_init_110 (by decide) ?_
  refine gx_icmp_ge (tgt := 133) C dX7_init_112 (by decide) (fun c_1 => ?_) (fun c_1 => ?_)
  · have hi : i = 105 := Nat.le_antisymm hI ((nI_leI (a := 105) (b := i) (by decide) (by omega)).mp c_1)
    subst hi
    have hLc : (((((L ++ [q8]) ++ [q17]) ++ [q26]) ++ [q33]) ++ [q41]) = L ++ [q8, q17, q26, q33, q41] := by simp
    have hD9 := hD_q41
    rw [hLc] at hD9
    have nd := nod_cons hD9 hh
    refine gx_vretA C hr (N := [q8, q17, q26, q33, q41]) hLc hD_q41 dX7_init_133 ?_
    refine ⟨rfl, q8, q17, q26, q33, q41, rfl, ⟨fun i hi => ?_, fun i j hi hj z => getD_nd nd hi hj z, (ho1 h n_h_q8).trans e_h, hz1, (ho1 q17 (Ne.symm n_q8_q17)).trans e_q17, (ho1 q26 (Ne.symm n_q8_q26)).trans e_q26, (ho1 q33 (Ne.symm n_q8_q33)).trans e_q33, (ho1 q41 (Ne.symm n_q8_q41)).trans e_q41⟩, fun x hx hn => (ho1 x (nL_q8 x hx)).trans (fr x hx hn)⟩
    rcases List.mem_cons.mp (getD_in (T := h :: [q8, q17, q26, q33, q41]) (i := i) hi) with z | z
    · exact List.mem_append_left _ (by rw [show (fun i => (h :: [q8, q17, q26, q33, q41]).getD i 0) i = h from z]; exact hh)
    · exact List.mem_append_right _ z
  · have hlt : i < 105 := Nat.lt_of_not_le (fun z => c_1 ((nI_leI (a := 105) (b := i) (by decide) (by omega)).mpr z))
    refine gx_aload_n (q := 0) C dX7_init_115 rfl ?_
    refine gx_get C (i := 0) m_h ((ho1 h n_h_q8).trans e_h) rfl in_X7_init_7 (by decide) fl_X7_init_7 rfl dX7_init_116 ?_
    refine gx_sipush (v := 215) C dX7_init_119 (by decide) ?_
    refine gx_iload_n (q := 1) C dX7_init_122 rfl ?_
    refine gx_iadd C dX7_init_123 ?_
    refine gx_bipush (v := (-6)) C dX7_init_124 (by decide) ?_
    refine gx_iastN C hD_q41 m_q8 hz1 (nAdd (nLit 215) (rfl : nI i = nI i)) (by omega) (by decide) dX7_init_126 ?_
    refine gx_iinc C (q := 1) (v := nI (i + 1)) [(1, _), (0, _)] dX7_init_127 rfl (nI_inc i) (by decide) rfl ?_
    refine gx_goto (tgt := 109) C dX7_init_130 (by decide) ?_
    exact gx_back [1, 0] (ih (i + 1, _) ⟨by show i + 1 ≤ 105; omega, by show va_up f1 q8 _ q8 = _; rw [va_up_at, zIn_s], fun x hx => by show va_up f1 q8 _ x = _; rw [va_up_of _ hx]; exact ho1 x hx⟩ (by show 105 - (i + 1) < 105 - i; omega)) rfl rfl
  exact absurd (by decide) c_87_4
