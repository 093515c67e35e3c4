abbrev rm_BR_init : Room := { frames := 1, cells := 1, slots := 96, locals := 20 }
set_option maxHeartbeats 4000000 in
set_option maxRecDepth 100000 in
theorem c_BR_init (l : Launch) (D : va_G) (cA : ClassId) (h : Nat)  : xV l y_BR_init w_BR_init rm_BR_init D vwCl [(cA, .int)] [.ref h] [cO h 0 [.null, .int (iI 0)]] (fun w => ∃ (q : Nat), w = [cO h 0 [.ref q, .int (iI 0)], cR q cA 96 (fun _ => 0)]) 1 96 := by
  refine xV.of (by decide) rfl (Nat.le_of_ble_eq_true rfl) ?_
  intro P0 E0 S0 M0 A0 B0 T0 C0 AA QQ XX hnm ret
  refine g_aload_n XX d_BR_init_0 rfl 0 rfl ?_
  refine g_objInit XX (tm kw_158) (tm kw_1) (tm kw_2) d_BR_init_1 (by decide) (Nat.le_of_ble_eq_true rfl) ?_
  refine g_aload_n XX d_BR_init_4 rfl 0 rfl ?_
  refine g_bipush (v := 96) XX d_BR_init_5 (by decide) ?_
  refine g_newa (cA := cA) (N' := 96) XX 0 rfl (tm kw_109) (by decide) (by decide) (by decide) (by decide) d_BR_init_7 (fun q7 => ?_)
  show xG P0 l E0 rm_BR_init S0 M0 A0 B0 T0 C0 QQ 1 D vwCl AA 1 96 [cO h 0 [.null, .int (iI 0)], cR q7 cA 96 (fun _ => 0)] 9 [(0, .ref h)] [.ref q7, .ref h]
  refine g_putF (C := R_BR) (T := T_BR) (N := 2) (ty := (.array .int)) (ws' := [cO h 0 [.ref q7, .int (iI 0)], cR q7 cA 96 (fun _ => 0)]) XX (tmw win0_BR) ty_BR ok_BR nm_BR 0 rfl rfl 0 (by decide) (tm kw_159) rfl rfl hnm rfl (by decide +kernel) rfl rfl (Nat.le_of_ble_eq_true rfl) rfl d_BR_init_9 ?_
  refine g_aload_n XX d_BR_init_12 rfl 0 rfl ?_
  refine g_iconst XX d_BR_init_13 ?_
  refine g_put (C := R_BR) (T := T_BR) (N := 2) (ty := (.int)) (ws' := [cO h 0 [.ref q7, .int (iI 0)], cR q7 cA 96 (fun _ => 0)]) XX (tmw win0_BR) ty_BR ok_BR nm_BR 0 rfl rfl 1 (by decide) (tm kw_160) rfl rfl (by decide +kernel) rfl rfl (Nat.le_of_ble_eq_true rfl) rfl d_BR_init_14 ?_
  exact ret _ _ _ [cO h 0 [.ref q7, .int (iI 0)], cR q7 cA 96 (fun _ => 0)] [0, 1] d_BR_init_17 (by decide) rfl (⟨q7, rfl⟩)
abbrev rm_SO_init : Room := { frames := 1, cells := 4, slots := 387, locals := 20 }
set_option maxHeartbeats 4000000 in
set_option maxRecDepth 100000 in
theorem c_SO_init (l : Launch) (D : va_G) (cA : ClassId) (h : Nat)  : xV l y_SO_init w_SO_init rm_SO_init D vwCl [(cA, .int)] [.ref h] [cO h 3 [.null, .null, .null, .null]] (fun w => ∃ (a1 : Nat), ∃ (a2 : Nat), ∃ (a3 : Nat), ∃ (a4 : Nat), w = [cO h 3 [.ref a1, .ref a2, .ref a3, .ref a4], cR a1 cA 97 (fun _ => 0), cR a2 cA 97 (fun _ => 0), cR a3 cA 96 (fun _ => 0), cR a4 cA 97 (iup (fun _ => 0) 0 (-2))]) 4 387 := by
  refine xV.of (by decide) rfl (Nat.le_of_ble_eq_true rfl) ?_
  intro P0 E0 S0 M0 A0 B0 T0 C0 AA QQ XX hnm ret
  refine g_aload_n XX d_SO_init_0 rfl 0 rfl ?_
  refine g_objInit XX (tm kw_187) (tm kw_1) (tm kw_2) d_SO_init_1 (by decide) (Nat.le_of_ble_eq_true rfl) ?_
  refine g_aload_n XX d_SO_init_4 rfl 0 rfl ?_
  refine g_bipush (v := 97) XX d_SO_init_5 (by decide) ?_
  refine g_newa (cA := cA) (N' := 97) XX 0 rfl (tm kw_109) (by decide) (by decide) (by decide) (by decide) d_SO_init_7 (fun q7 => ?_)
  show xG P0 l E0 rm_SO_init S0 M0 A0 B0 T0 C0 QQ 1 D vwCl AA 1 97 [cO h 3 [.null, .null, .null, .null], cR q7 cA 97 (fun _ => 0)] 9 [(0, .ref h)] [.ref q7, .ref h]
  refine g_putF (C := R_SO) (T := T_SO) (N := 4) (ty := (.array .int)) (ws' := [cO h 3 [.ref q7, .null, .null, .null], cR q7 cA 97 (fun _ => 0)]) XX (tmw win0_SO) ty_SO ok_SO nm_SO 0 rfl rfl 0 (by decide) (tm kw_188) rfl rfl hnm rfl (by decide +kernel) rfl rfl (Nat.le_of_ble_eq_true rfl) rfl d_SO_init_9 ?_
  refine g_aload_n XX d_SO_init_12 rfl 0 rfl ?_
  refine g_bipush (v := 97) XX d_SO_init_13 (by decide) ?_
  refine g_newa (cA := cA) (N' := 97) XX 0 rfl (tm kw_109) (by decide) (by decide) (by decide) (by decide) d_SO_init_15 (fun q15 => ?_)
  show xG P0 l E0 rm_SO_init S0 M0 A0 B0 T0 C0 QQ 1 D vwCl AA 2 194 [cO h 3 [.ref q7, .null, .null, .null], cR q7 cA 97 (fun _ => 0), cR q15 cA 97 (fun _ => 0)] 17 [(0, .ref h)] [.ref q15, .ref h]
  refine g_putF (C := R_SO) (T := T_SO) (N := 4) (ty := (.array .int)) (ws' := [cO h 3 [.ref q7, .ref q15, .null, .null], cR q7 cA 97 (fun _ => 0), cR q15 cA 97 (fun _ => 0)]) XX (tmw win0_SO) ty_SO ok_SO nm_SO 0 rfl rfl 1 (by decide) (tm kw_189) rfl rfl hnm rfl (by decide +kernel) rfl rfl (Nat.le_of_ble_eq_true rfl) rfl d_SO_init_17 ?_
  refine g_aload_n XX d_SO_init_20 rfl 0 rfl ?_
  refine g_bipush (v := 96) XX d_SO_init_21 (by decide) ?_
  refine g_newa (cA := cA) (N' := 96) XX 0 rfl (tm kw_109) (by decide) (by decide) (by decide) (by decide) d_SO_init_23 (fun q23 => ?_)
  show xG P0 l E0 rm_SO_init S0 M0 A0 B0 T0 C0 QQ 1 D vwCl AA 3 290 [cO h 3 [.ref q7, .ref q15, .null, .null], cR q7 cA 97 (fun _ => 0), cR q15 cA 97 (fun _ => 0), cR q23 cA 96 (fun _ => 0)] 25 [(0, .ref h)] [.ref q23, .ref h]
  refine g_putF (C := R_SO) (T := T_SO) (N := 4) (ty := (.array .int)) (ws' := [cO h 3 [.ref q7, .ref q15, .ref q23, .null], cR q7 cA 97 (fun _ => 0), cR q15 cA 97 (fun _ => 0), cR q23 cA 96 (fun _ => 0)]) XX (tmw win0_SO) ty_SO ok_SO nm_SO 0 rfl rfl 2 (by decide) (tm kw_190) rfl rfl hnm rfl (by decide +kernel) rfl rfl (Nat.le_of_ble_eq_true rfl) rfl d_SO_init_25 ?_
  refine g_aload_n XX d_SO_init_28 rfl 0 rfl ?_
  refine g_bipush (v := 97) XX d_SO_init_29 (by decide) ?_
  refine g_newa (cA := cA) (N' := 97) XX 0 rfl (tm kw_109) (by decide) (by decide) (by decide) (by decide) d_SO_init_31 (fun q31 => ?_)
  show xG P0 l E0 rm_SO_init S0 M0 A0 B0 T0 C0 QQ 1 D vwCl AA 4 387 [cO h 3 [.ref q7, .ref q15, .ref q23, .null], cR q7 cA 97 (fun _ => 0), cR q15 cA 97 (fun _ => 0), cR q23 cA 96 (fun _ => 0), cR q31 cA 97 (fun _ => 0)] 33 [(0, .ref h)] [.ref q31, .ref h]
  refine g_putF (C := R_SO) (T := T_SO) (N := 4) (ty := (.array .int)) (ws' := [cO h 3 [.ref q7, .ref q15, .ref q23, .ref q31], cR q7 cA 97 (fun _ => 0), cR q15 cA 97 (fun _ => 0), cR q23 cA 96 (fun _ => 0), cR q31 cA 97 (fun _ => 0)]) XX (tmw win0_SO) ty_SO ok_SO nm_SO 0 rfl rfl 3 (by decide) (tm kw_191) rfl rfl hnm rfl (by decide +kernel) rfl rfl (Nat.le_of_ble_eq_true rfl) rfl d_SO_init_33 ?_
  refine g_aload_n XX d_SO_init_36 rfl 0 rfl ?_
  refine g_get (C := R_SO) (T := T_SO) (N := 4) XX (tmw win0_SO) 0 rfl rfl 3 (by decide) (tm kw_191) rfl rfl d_SO_init_37 ?_
  refine g_iconst XX d_SO_init_40 ?_
  refine g_bipush (v := -2) XX d_SO_init_41 (by decide) ?_
  refine g_iast (ws' := [cO h 3 [.ref q7, .ref q15, .ref q23, .ref q31], cR q7 cA 97 (fun _ => 0), cR q15 cA 97 (fun _ => 0), cR q23 cA 96 (fun _ => 0), cR q31 cA 97 (iup (fun _ => 0) 0 (-2))]) XX 4 0 rfl rfl ⟨by omega, by omega, by decide⟩ rfl d_SO_init_43 ?_
  exact ret _ _ _ [cO h 3 [.ref q7, .ref q15, .ref q23, .ref q31], cR q7 cA 97 (fun _ => 0), cR q15 cA 97 (fun _ => 0), cR q23 cA 96 (fun _ => 0), cR q31 cA 97 (iup (fun _ => 0) 0 (-2))] [0, 1, 2, 3, 4] d_SO_init_44 (by decide) rfl (⟨q7, q15, q23, q31, rfl⟩)
abbrev rm_FL_init : Room := { frames := 1, cells := 2, slots := 354, locals := 20 }
set_option maxHeartbeats 4000000 in
set_option maxRecDepth 100000 in
theorem c_FL_init (l : Launch) (D : va_G) (cA : ClassId) (h : Nat)  : xV l y_FL_init w_FL_init rm_FL_init D vwCl [(cA, .int)] [.ref h] [cO h 2 [.null, .null]] (fun w => ∃ (n1 : Nat), ∃ (l1 : Nat), w = [cO h 2 [.ref n1, .ref l1], cR n1 cA 97 (fun _ => 0), cR l1 cA 257 (fun _ => 0)]) 2 354 := by
  refine xV.of (by decide) rfl (Nat.le_of_ble_eq_true rfl) ?_
  intro P0 E0 S0 M0 A0 B0 T0 C0 AA QQ XX hnm ret
  refine g_aload_n XX d_FL_init_0 rfl 0 rfl ?_
  refine g_objInit XX (tm kw_175) (tm kw_1) (tm kw_2) d_FL_init_1 (by decide) (Nat.le_of_ble_eq_true rfl) ?_
  refine g_aload_n XX d_FL_init_4 rfl 0 rfl ?_
  refine g_bipush (v := 97) XX d_FL_init_5 (by decide) ?_
  refine g_newa (cA := cA) (N' := 97) XX 0 rfl (tm kw_109) (by decide) (by decide) (by decide) (by decide) d_FL_init_7 (fun q7 => ?_)
  show xG P0 l E0 rm_FL_init S0 M0 A0 B0 T0 C0 QQ 1 D vwCl AA 1 97 [cO h 2 [.null, .null], cR q7 cA 97 (fun _ => 0)] 9 [(0, .ref h)] [.ref q7, .ref h]
  refine g_putF (C := R_FL) (T := T_FL) (N := 2) (ty := (.array .int)) (ws' := [cO h 2 [.ref q7, .null], cR q7 cA 97 (fun _ => 0)]) XX (tmw win0_FL) ty_FL ok_FL nm_FL 0 rfl rfl 0 (by decide) (tm kw_176) rfl rfl hnm rfl (by decide +kernel) rfl rfl (Nat.le_of_ble_eq_true rfl) rfl d_FL_init_9 ?_
  refine g_aload_n XX d_FL_init_12 rfl 0 rfl ?_
  refine g_sipush (v := 257) XX d_FL_init_13 (by decide) ?_
  refine g_newa (cA := cA) (N' := 257) XX 0 rfl (tm kw_109) (by decide) (by decide) (by decide) (by decide) d_FL_init_16 (fun q16 => ?_)
  show xG P0 l E0 rm_FL_init S0 M0 A0 B0 T0 C0 QQ 1 D vwCl AA 2 354 [cO h 2 [.ref q7, .null], cR q7 cA 97 (fun _ => 0), cR q16 cA 257 (fun _ => 0)] 18 [(0, .ref h)] [.ref q16, .ref h]
  refine g_putF (C := R_FL) (T := T_FL) (N := 2) (ty := (.array .int)) (ws' := [cO h 2 [.ref q7, .ref q16], cR q7 cA 97 (fun _ => 0), cR q16 cA 257 (fun _ => 0)]) XX (tmw win0_FL) ty_FL ok_FL nm_FL 0 rfl rfl 1 (by decide) (tm kw_177) rfl rfl hnm rfl (by decide +kernel) rfl rfl (Nat.le_of_ble_eq_true rfl) rfl d_FL_init_18 ?_
  exact ret _ _ _ [cO h 2 [.ref q7, .ref q16], cR q7 cA 97 (fun _ => 0), cR q16 cA 257 (fun _ => 0)] [0, 1, 2] d_FL_init_21 (by decide) rfl (⟨q7, q16, rfl⟩)
abbrev rm_CR_init : Room := { frames := 1, cells := 1, slots := 97, locals := 20 }
set_option maxHeartbeats 4000000 in
set_option maxRecDepth 100000 in
theorem c_CR_init (l : Launch) (D : va_G) (cA : ClassId) (h : Nat)  : xV l y_CR_init w_CR_init rm_CR_init D vwCl [(cA, .int)] [.ref h] [cO h 1 [.null, .int (iI 0)]] (fun w => ∃ (a : Nat), w = [cO h 1 [.ref a, .int (iI 0)], cR a cA 97 (iup (fun _ => 0) 0 (-2))]) 1 97 := by
  refine xV.of (by decide) rfl (Nat.le_of_ble_eq_true rfl) ?_
  intro P0 E0 S0 M0 A0 B0 T0 C0 AA QQ XX hnm ret
  refine g_aload_n XX d_CR_init_0 rfl 0 rfl ?_
  refine g_objInit XX (tm kw_166) (tm kw_1) (tm kw_2) d_CR_init_1 (by decide) (Nat.le_of_ble_eq_true rfl) ?_
  refine g_aload_n XX d_CR_init_4 rfl 0 rfl ?_
  refine g_bipush (v := 97) XX d_CR_init_5 (by decide) ?_
  refine g_newa (cA := cA) (N' := 97) XX 0 rfl (tm kw_109) (by decide) (by decide) (by decide) (by decide) d_CR_init_7 (fun q7 => ?_)
  show xG P0 l E0 rm_CR_init S0 M0 A0 B0 T0 C0 QQ 1 D vwCl AA 1 97 [cO h 1 [.null, .int (iI 0)], cR q7 cA 97 (fun _ => 0)] 9 [(0, .ref h)] [.ref q7, .ref h]
  refine g_putF (C := R_CR) (T := T_CR) (N := 2) (ty := (.array .int)) (ws' := [cO h 1 [.ref q7, .int (iI 0)], cR q7 cA 97 (fun _ => 0)]) XX (tmw win0_CR) ty_CR ok_CR nm_CR 0 rfl rfl 0 (by decide) (tm kw_167) rfl rfl hnm rfl (by decide +kernel) rfl rfl (Nat.le_of_ble_eq_true rfl) rfl d_CR_init_9 ?_
  refine g_aload_n XX d_CR_init_12 rfl 0 rfl ?_
  refine g_get (C := R_CR) (T := T_CR) (N := 2) XX (tmw win0_CR) 0 rfl rfl 0 (by decide) (tm kw_167) rfl rfl d_CR_init_13 ?_
  refine g_iconst XX d_CR_init_16 ?_
  refine g_bipush (v := -2) XX d_CR_init_17 (by decide) ?_
  refine g_iast (ws' := [cO h 1 [.ref q7, .int (iI 0)], cR q7 cA 97 (iup (fun _ => 0) 0 (-2))]) XX 1 0 rfl rfl ⟨by omega, by omega, by decide⟩ rfl d_CR_init_19 ?_
  refine g_aload_n XX d_CR_init_20 rfl 0 rfl ?_
  refine g_iconst XX d_CR_init_21 ?_
  refine g_put (C := R_CR) (T := T_CR) (N := 2) (ty := (.int)) (ws' := [cO h 1 [.ref q7, .int (iI 0)], cR q7 cA 97 (iup (fun _ => 0) 0 (-2))]) XX (tmw win0_CR) ty_CR ok_CR nm_CR 0 rfl rfl 1 (by decide) (tm kw_168) rfl rfl (by decide +kernel) rfl rfl (Nat.le_of_ble_eq_true rfl) rfl d_CR_init_22 ?_
  exact ret _ _ _ [cO h 1 [.ref q7, .int (iI 0)], cR q7 cA 97 (iup (fun _ => 0) 0 (-2))] [0, 1] d_CR_init_25 (by decide) rfl (⟨q7, rfl⟩)
abbrev rm_CX_init : Room := { frames := 2, cells := 16, slots := 1140, locals := 40 }
set_option maxHeartbeats 4000000 in
set_option maxRecDepth 100000 in
theorem c_CX_init (l : Launch) (D : va_G) (cA : ClassId) (x : Nat)  : xV l y_CX_init w_CX_init rm_CX_init D vwCl [(cA, .int)] [.ref x] [cO x 4 [.null, .null, .null, .null, .null, .null]] (fun w => ∃ (hT : Nat), ∃ (hX : Nat), ∃ (hP : Nat), ∃ (hO : Nat), ∃ (hF : Nat), ∃ (hR : Nat), ∃ (aT : Nat), ∃ (aX : Nat), ∃ (aP : Nat), ∃ (o1 : Nat), ∃ (o2 : Nat), ∃ (o3 : Nat), ∃ (o4 : Nat), ∃ (n1 : Nat), ∃ (l1 : Nat), ∃ (r1 : Nat), w = [cO x 4 [.ref hT, .ref hX, .ref hP, .ref hO, .ref hF, .ref hR], cO hT 0 [.ref aT, .int (iI 0)], cR aT cA 96 (fun _ => 0), cO hX 0 [.ref aX, .int (iI 0)], cR aX cA 96 (fun _ => 0), cO hP 0 [.ref aP, .int (iI 0)], cR aP cA 96 (fun _ => 0), cO hO 3 [.ref o1, .ref o2, .ref o3, .ref o4], cR o1 cA 97 (fun _ => 0), cR o2 cA 97 (fun _ => 0), cR o3 cA 96 (fun _ => 0), cR o4 cA 97 (iup (fun _ => 0) 0 (-2)), cO hF 2 [.ref n1, .ref l1], cR n1 cA 97 (fun _ => 0), cR l1 cA 257 (fun _ => 0), cO hR 1 [.ref r1, .int (iI 0)], cR r1 cA 97 (iup (fun _ => 0) 0 (-2))]) 16 1140 := by
  refine xV.of (by decide) rfl (Nat.le_of_ble_eq_true rfl) ?_
  intro P0 E0 S0 M0 A0 B0 T0 C0 AA QQ XX hnm ret
  refine g_aload_n XX d_CX_init_0 rfl 0 rfl ?_
  refine g_objInit XX (tm kw_0) (tm kw_1) (tm kw_2) d_CX_init_1 (by decide) (Nat.le_of_ble_eq_true rfl) ?_
  refine g_aload_n XX d_CX_init_4 rfl 0 rfl ?_
  refine g_new (C := R_BR) (T := T_BR) (N := 2) (ci := 0) (fs := [.null, .int (iI 0)]) XX (tmw win0_BR) ty_BR ok_BR (tm kw_3) (tm kw_4) (tm kw_5) rfl (fun j hj => by rcases (show j = 0 ∨ j = 1 by omega) with rfl | rfl <;> rfl) (by decide) (by decide) d_CX_init_5 (fun q5 => ?_)
  show xG P0 l E0 rm_CX_init S0 M0 A0 B0 T0 C0 QQ 1 D vwCl AA 1 2 [cO x 4 [.null, .null, .null, .null, .null, .null], cO q5 0 [.null, .int (iI 0)]] 8 [(0, .ref x)] [.ref q5, .ref x]
  refine g_dup XX d_CX_init_8 rfl ?_
  refine g_callIv (As := []) (st := [.ref q5, .ref x]) (wr := [cO x 4 [.null, .null, .null, .null, .null, .null]]) XX (c_BR_init l D cA q5 ) (x_cwI 0 XX.2.2.2.2.1 (gi kw_6) rfl rfl (tm kw_5) (tm kw_7) (tm kw_8) rfl ⟨by decide +kernel, by decide +kernel, by decide +kernel⟩ ⟨by decide, by decide⟩) [1] [0] rfl rfl (by decide) (by decide) (by decide) rfl rfl (Nat.le_of_ble_eq_true rfl) d_CX_init_9 ⟨by decide, by decide⟩ (fun w_ hq => ?_)
  obtain ⟨q_9, rfl⟩ := hq
  show xG P0 l E0 rm_CX_init S0 M0 A0 B0 T0 C0 QQ 1 D vwCl AA 2 98 [cO x 4 [.null, .null, .null, .null, .null, .null], cO q5 0 [.ref q_9, .int (iI 0)], cR q_9 cA 96 (fun _ => 0)] 12 [(0, .ref x)] [.ref q5, .ref x]
  refine g_putF (C := R_CX) (T := T_CX) (N := 6) (ty := (.object "ColumnIndex$ByteRow")) (ws' := [cO x 4 [.ref q5, .null, .null, .null, .null, .null], cO q5 0 [.ref q_9, .int (iI 0)], cR q_9 cA 96 (fun _ => 0)]) XX (tmw win0_CX) ty_CX ok_CX nm_CX 0 rfl rfl 0 (by decide) (tm kw_9) rfl rfl hnm rfl (by decide +kernel) rfl rfl (Nat.le_of_ble_eq_true rfl) rfl d_CX_init_12 ?_
  refine g_aload_n XX d_CX_init_15 rfl 0 rfl ?_
  refine g_new (C := R_BR) (T := T_BR) (N := 2) (ci := 0) (fs := [.null, .int (iI 0)]) XX (tmw win0_BR) ty_BR ok_BR (tm kw_3) (tm kw_4) (tm kw_5) rfl (fun j hj => by rcases (show j = 0 ∨ j = 1 by omega) with rfl | rfl <;> rfl) (by decide) (by decide) d_CX_init_16 (fun q16 => ?_)
  show xG P0 l E0 rm_CX_init S0 M0 A0 B0 T0 C0 QQ 1 D vwCl AA 3 100 [cO x 4 [.ref q5, .null, .null, .null, .null, .null], cO q5 0 [.ref q_9, .int (iI 0)], cR q_9 cA 96 (fun _ => 0), cO q16 0 [.null, .int (iI 0)]] 19 [(0, .ref x)] [.ref q16, .ref x]
  refine g_dup XX d_CX_init_19 rfl ?_
  refine g_callIv (As := []) (st := [.ref q16, .ref x]) (wr := [cO x 4 [.ref q5, .null, .null, .null, .null, .null], cO q5 0 [.ref q_9, .int (iI 0)], cR q_9 cA 96 (fun _ => 0)]) XX (c_BR_init l D cA q16 ) (x_cwI 0 XX.2.2.2.2.1 (gi kw_6) rfl rfl (tm kw_5) (tm kw_7) (tm kw_8) rfl ⟨by decide +kernel, by decide +kernel, by decide +kernel⟩ ⟨by decide, by decide⟩) [3] [0, 1, 2] rfl rfl (by decide) (by decide) (by decide) rfl rfl (Nat.le_of_ble_eq_true rfl) d_CX_init_20 ⟨by decide, by decide⟩ (fun w_ hq => ?_)
  obtain ⟨q_20, rfl⟩ := hq
  show xG P0 l E0 rm_CX_init S0 M0 A0 B0 T0 C0 QQ 1 D vwCl AA 4 196 [cO x 4 [.ref q5, .null, .null, .null, .null, .null], cO q5 0 [.ref q_9, .int (iI 0)], cR q_9 cA 96 (fun _ => 0), cO q16 0 [.ref q_20, .int (iI 0)], cR q_20 cA 96 (fun _ => 0)] 23 [(0, .ref x)] [.ref q16, .ref x]
  refine g_putF (C := R_CX) (T := T_CX) (N := 6) (ty := (.object "ColumnIndex$ByteRow")) (ws' := [cO x 4 [.ref q5, .ref q16, .null, .null, .null, .null], cO q5 0 [.ref q_9, .int (iI 0)], cR q_9 cA 96 (fun _ => 0), cO q16 0 [.ref q_20, .int (iI 0)], cR q_20 cA 96 (fun _ => 0)]) XX (tmw win0_CX) ty_CX ok_CX nm_CX 0 rfl rfl 1 (by decide) (tm kw_10) rfl rfl hnm rfl (by decide +kernel) rfl rfl (Nat.le_of_ble_eq_true rfl) rfl d_CX_init_23 ?_
  refine g_aload_n XX d_CX_init_26 rfl 0 rfl ?_
  refine g_new (C := R_BR) (T := T_BR) (N := 2) (ci := 0) (fs := [.null, .int (iI 0)]) XX (tmw win0_BR) ty_BR ok_BR (tm kw_3) (tm kw_4) (tm kw_5) rfl (fun j hj => by rcases (show j = 0 ∨ j = 1 by omega) with rfl | rfl <;> rfl) (by decide) (by decide) d_CX_init_27 (fun q27 => ?_)
  show xG P0 l E0 rm_CX_init S0 M0 A0 B0 T0 C0 QQ 1 D vwCl AA 5 198 [cO x 4 [.ref q5, .ref q16, .null, .null, .null, .null], cO q5 0 [.ref q_9, .int (iI 0)], cR q_9 cA 96 (fun _ => 0), cO q16 0 [.ref q_20, .int (iI 0)], cR q_20 cA 96 (fun _ => 0), cO q27 0 [.null, .int (iI 0)]] 30 [(0, .ref x)] [.ref q27, .ref x]
  refine g_dup XX d_CX_init_30 rfl ?_
  refine g_callIv (As := []) (st := [.ref q27, .ref x]) (wr := [cO x 4 [.ref q5, .ref q16, .null, .null, .null, .null], cO q5 0 [.ref q_9, .int (iI 0)], cR q_9 cA 96 (fun _ => 0), cO q16 0 [.ref q_20, .int (iI 0)], cR q_20 cA 96 (fun _ => 0)]) XX (c_BR_init l D cA q27 ) (x_cwI 0 XX.2.2.2.2.1 (gi kw_6) rfl rfl (tm kw_5) (tm kw_7) (tm kw_8) rfl ⟨by decide +kernel, by decide +kernel, by decide +kernel⟩ ⟨by decide, by decide⟩) [5] [0, 1, 2, 3, 4] rfl rfl (by decide) (by decide) (by decide) rfl rfl (Nat.le_of_ble_eq_true rfl) d_CX_init_31 ⟨by decide, by decide⟩ (fun w_ hq => ?_)
  obtain ⟨q_31, rfl⟩ := hq
  show xG P0 l E0 rm_CX_init S0 M0 A0 B0 T0 C0 QQ 1 D vwCl AA 6 294 [cO x 4 [.ref q5, .ref q16, .null, .null, .null, .null], cO q5 0 [.ref q_9, .int (iI 0)], cR q_9 cA 96 (fun _ => 0), cO q16 0 [.ref q_20, .int (iI 0)], cR q_20 cA 96 (fun _ => 0), cO q27 0 [.ref q_31, .int (iI 0)], cR q_31 cA 96 (fun _ => 0)] 34 [(0, .ref x)] [.ref q27, .ref x]
  refine g_putF (C := R_CX) (T := T_CX) (N := 6) (ty := (.object "ColumnIndex$ByteRow")) (ws' := [cO x 4 [.ref q5, .ref q16, .ref q27, .null, .null, .null], cO q5 0 [.ref q_9, .int (iI 0)], cR q_9 cA 96 (fun _ => 0), cO q16 0 [.ref q_20, .int (iI 0)], cR q_20 cA 96 (fun _ => 0), cO q27 0 [.ref q_31, .int (iI 0)], cR q_31 cA 96 (fun _ => 0)]) XX (tmw win0_CX) ty_CX ok_CX nm_CX 0 rfl rfl 2 (by decide) (tm kw_11) rfl rfl hnm rfl (by decide +kernel) rfl rfl (Nat.le_of_ble_eq_true rfl) rfl d_CX_init_34 ?_
  refine g_aload_n XX d_CX_init_37 rfl 0 rfl ?_
  refine g_new (C := R_SO) (T := T_SO) (N := 4) (ci := 3) (fs := [.null, .null, .null, .null]) XX (tmw win0_SO) ty_SO ok_SO (tm kw_12) (tm kw_13) (tm kw_14) rfl (fun j hj => by rcases (show j = 0 ∨ j = 1 ∨ j = 2 ∨ j = 3 by omega) with rfl | rfl | rfl | rfl <;> rfl) (by decide) (by decide) d_CX_init_38 (fun q38 => ?_)
  show xG P0 l E0 rm_CX_init S0 M0 A0 B0 T0 C0 QQ 1 D vwCl AA 7 298 [cO x 4 [.ref q5, .ref q16, .ref q27, .null, .null, .null], cO q5 0 [.ref q_9, .int (iI 0)], cR q_9 cA 96 (fun _ => 0), cO q16 0 [.ref q_20, .int (iI 0)], cR q_20 cA 96 (fun _ => 0), cO q27 0 [.ref q_31, .int (iI 0)], cR q_31 cA 96 (fun _ => 0), cO q38 3 [.null, .null, .null, .null]] 41 [(0, .ref x)] [.ref q38, .ref x]
  refine g_dup XX d_CX_init_41 rfl ?_
  refine g_callIv (As := []) (st := [.ref q38, .ref x]) (wr := [cO x 4 [.ref q5, .ref q16, .ref q27, .null, .null, .null], cO q5 0 [.ref q_9, .int (iI 0)], cR q_9 cA 96 (fun _ => 0), cO q16 0 [.ref q_20, .int (iI 0)], cR q_20 cA 96 (fun _ => 0), cO q27 0 [.ref q_31, .int (iI 0)], cR q_31 cA 96 (fun _ => 0)]) XX (c_SO_init l D cA q38 ) (x_cwI 0 XX.2.2.2.2.1 (gi kw_15) rfl rfl (tm kw_14) (tm kw_16) (tm kw_17) rfl ⟨by decide +kernel, by decide +kernel, by decide +kernel⟩ ⟨by decide, by decide⟩) [7] [0, 1, 2, 3, 4, 5, 6] rfl rfl (by decide) (by decide) (by decide) rfl rfl (Nat.le_of_ble_eq_true rfl) d_CX_init_42 ⟨by decide, by decide⟩ (fun w_ hq => ?_)
  obtain ⟨a1_42, a2_42, a3_42, a4_42, rfl⟩ := hq
  show xG P0 l E0 rm_CX_init S0 M0 A0 B0 T0 C0 QQ 1 D vwCl AA 11 685 [cO x 4 [.ref q5, .ref q16, .ref q27, .null, .null, .null], cO q5 0 [.ref q_9, .int (iI 0)], cR q_9 cA 96 (fun _ => 0), cO q16 0 [.ref q_20, .int (iI 0)], cR q_20 cA 96 (fun _ => 0), cO q27 0 [.ref q_31, .int (iI 0)], cR q_31 cA 96 (fun _ => 0), cO q38 3 [.ref a1_42, .ref a2_42, .ref a3_42, .ref a4_42], cR a1_42 cA 97 (fun _ => 0), cR a2_42 cA 97 (fun _ => 0), cR a3_42 cA 96 (fun _ => 0), cR a4_42 cA 97 (iup (fun _ => 0) 0 (-2))] 45 [(0, .ref x)] [.ref q38, .ref x]
  refine g_putF (C := R_CX) (T := T_CX) (N := 6) (ty := (.object "ColumnIndex$SuffixOrder")) (ws' := [cO x 4 [.ref q5, .ref q16, .ref q27, .ref q38, .null, .null], cO q5 0 [.ref q_9, .int (iI 0)], cR q_9 cA 96 (fun _ => 0), cO q16 0 [.ref q_20, .int (iI 0)], cR q_20 cA 96 (fun _ => 0), cO q27 0 [.ref q_31, .int (iI 0)], cR q_31 cA 96 (fun _ => 0), cO q38 3 [.ref a1_42, .ref a2_42, .ref a3_42, .ref a4_42], cR a1_42 cA 97 (fun _ => 0), cR a2_42 cA 97 (fun _ => 0), cR a3_42 cA 96 (fun _ => 0), cR a4_42 cA 97 (iup (fun _ => 0) 0 (-2))]) XX (tmw win0_CX) ty_CX ok_CX nm_CX 0 rfl rfl 3 (by decide) (tm kw_18) rfl rfl hnm rfl (by decide +kernel) rfl rfl (Nat.le_of_ble_eq_true rfl) rfl d_CX_init_45 ?_
  refine g_aload_n XX d_CX_init_48 rfl 0 rfl ?_
  refine g_new (C := R_FL) (T := T_FL) (N := 2) (ci := 2) (fs := [.null, .null]) XX (tmw win0_FL) ty_FL ok_FL (tm kw_19) (tm kw_20) (tm kw_21) rfl (fun j hj => by rcases (show j = 0 ∨ j = 1 by omega) with rfl | rfl <;> rfl) (by decide) (by decide) d_CX_init_49 (fun q49 => ?_)
  show xG P0 l E0 rm_CX_init S0 M0 A0 B0 T0 C0 QQ 1 D vwCl AA 12 687 [cO x 4 [.ref q5, .ref q16, .ref q27, .ref q38, .null, .null], cO q5 0 [.ref q_9, .int (iI 0)], cR q_9 cA 96 (fun _ => 0), cO q16 0 [.ref q_20, .int (iI 0)], cR q_20 cA 96 (fun _ => 0), cO q27 0 [.ref q_31, .int (iI 0)], cR q_31 cA 96 (fun _ => 0), cO q38 3 [.ref a1_42, .ref a2_42, .ref a3_42, .ref a4_42], cR a1_42 cA 97 (fun _ => 0), cR a2_42 cA 97 (fun _ => 0), cR a3_42 cA 96 (fun _ => 0), cR a4_42 cA 97 (iup (fun _ => 0) 0 (-2)), cO q49 2 [.null, .null]] 52 [(0, .ref x)] [.ref q49, .ref x]
  refine g_dup XX d_CX_init_52 rfl ?_
  refine g_callIv (As := []) (st := [.ref q49, .ref x]) (wr := [cO x 4 [.ref q5, .ref q16, .ref q27, .ref q38, .null, .null], cO q5 0 [.ref q_9, .int (iI 0)], cR q_9 cA 96 (fun _ => 0), cO q16 0 [.ref q_20, .int (iI 0)], cR q_20 cA 96 (fun _ => 0), cO q27 0 [.ref q_31, .int (iI 0)], cR q_31 cA 96 (fun _ => 0), cO q38 3 [.ref a1_42, .ref a2_42, .ref a3_42, .ref a4_42], cR a1_42 cA 97 (fun _ => 0), cR a2_42 cA 97 (fun _ => 0), cR a3_42 cA 96 (fun _ => 0), cR a4_42 cA 97 (iup (fun _ => 0) 0 (-2))]) XX (c_FL_init l D cA q49 ) (x_cwI 0 XX.2.2.2.2.1 (gi kw_22) rfl rfl (tm kw_21) (tm kw_23) (tm kw_24) rfl ⟨by decide +kernel, by decide +kernel, by decide +kernel⟩ ⟨by decide, by decide⟩) [12] [0, 1, 2, 3, 4, 5, 6, 7, 8, 9, 10, 11] rfl rfl (by decide) (by decide) (by decide) rfl rfl (Nat.le_of_ble_eq_true rfl) d_CX_init_53 ⟨by decide, by decide⟩ (fun w_ hq => ?_)
  obtain ⟨n1_53, l1_53, rfl⟩ := hq
  show xG P0 l E0 rm_CX_init S0 M0 A0 B0 T0 C0 QQ 1 D vwCl AA 14 1041 [cO x 4 [.ref q5, .ref q16, .ref q27, .ref q38, .null, .null], cO q5 0 [.ref q_9, .int (iI 0)], cR q_9 cA 96 (fun _ => 0), cO q16 0 [.ref q_20, .int (iI 0)], cR q_20 cA 96 (fun _ => 0), cO q27 0 [.ref q_31, .int (iI 0)], cR q_31 cA 96 (fun _ => 0), cO q38 3 [.ref a1_42, .ref a2_42, .ref a3_42, .ref a4_42], cR a1_42 cA 97 (fun _ => 0), cR a2_42 cA 97 (fun _ => 0), cR a3_42 cA 96 (fun _ => 0), cR a4_42 cA 97 (iup (fun _ => 0) 0 (-2)), cO q49 2 [.ref n1_53, .ref l1_53], cR n1_53 cA 97 (fun _ => 0), cR l1_53 cA 257 (fun _ => 0)] 56 [(0, .ref x)] [.ref q49, .ref x]
  refine g_putF (C := R_CX) (T := T_CX) (N := 6) (ty := (.object "ColumnIndex$FrontList")) (ws' := [cO x 4 [.ref q5, .ref q16, .ref q27, .ref q38, .ref q49, .null], cO q5 0 [.ref q_9, .int (iI 0)], cR q_9 cA 96 (fun _ => 0), cO q16 0 [.ref q_20, .int (iI 0)], cR q_20 cA 96 (fun _ => 0), cO q27 0 [.ref q_31, .int (iI 0)], cR q_31 cA 96 (fun _ => 0), cO q38 3 [.ref a1_42, .ref a2_42, .ref a3_42, .ref a4_42], cR a1_42 cA 97 (fun _ => 0), cR a2_42 cA 97 (fun _ => 0), cR a3_42 cA 96 (fun _ => 0), cR a4_42 cA 97 (iup (fun _ => 0) 0 (-2)), cO q49 2 [.ref n1_53, .ref l1_53], cR n1_53 cA 97 (fun _ => 0), cR l1_53 cA 257 (fun _ => 0)]) XX (tmw win0_CX) ty_CX ok_CX nm_CX 0 rfl rfl 4 (by decide) (tm kw_25) rfl rfl hnm rfl (by decide +kernel) rfl rfl (Nat.le_of_ble_eq_true rfl) rfl d_CX_init_56 ?_
  refine g_aload_n XX d_CX_init_59 rfl 0 rfl ?_
  refine g_new (C := R_CR) (T := T_CR) (N := 2) (ci := 1) (fs := [.null, .int (iI 0)]) XX (tmw win0_CR) ty_CR ok_CR (tm kw_26) (tm kw_27) (tm kw_28) rfl (fun j hj => by rcases (show j = 0 ∨ j = 1 by omega) with rfl | rfl <;> rfl) (by decide) (by decide) d_CX_init_60 (fun q60 => ?_)
  show xG P0 l E0 rm_CX_init S0 M0 A0 B0 T0 C0 QQ 1 D vwCl AA 15 1043 [cO x 4 [.ref q5, .ref q16, .ref q27, .ref q38, .ref q49, .null], cO q5 0 [.ref q_9, .int (iI 0)], cR q_9 cA 96 (fun _ => 0), cO q16 0 [.ref q_20, .int (iI 0)], cR q_20 cA 96 (fun _ => 0), cO q27 0 [.ref q_31, .int (iI 0)], cR q_31 cA 96 (fun _ => 0), cO q38 3 [.ref a1_42, .ref a2_42, .ref a3_42, .ref a4_42], cR a1_42 cA 97 (fun _ => 0), cR a2_42 cA 97 (fun _ => 0), cR a3_42 cA 96 (fun _ => 0), cR a4_42 cA 97 (iup (fun _ => 0) 0 (-2)), cO q49 2 [.ref n1_53, .ref l1_53], cR n1_53 cA 97 (fun _ => 0), cR l1_53 cA 257 (fun _ => 0), cO q60 1 [.null, .int (iI 0)]] 63 [(0, .ref x)] [.ref q60, .ref x]
  refine g_dup XX d_CX_init_63 rfl ?_
  refine g_callIv (As := []) (st := [.ref q60, .ref x]) (wr := [cO x 4 [.ref q5, .ref q16, .ref q27, .ref q38, .ref q49, .null], cO q5 0 [.ref q_9, .int (iI 0)], cR q_9 cA 96 (fun _ => 0), cO q16 0 [.ref q_20, .int (iI 0)], cR q_20 cA 96 (fun _ => 0), cO q27 0 [.ref q_31, .int (iI 0)], cR q_31 cA 96 (fun _ => 0), cO q38 3 [.ref a1_42, .ref a2_42, .ref a3_42, .ref a4_42], cR a1_42 cA 97 (fun _ => 0), cR a2_42 cA 97 (fun _ => 0), cR a3_42 cA 96 (fun _ => 0), cR a4_42 cA 97 (iup (fun _ => 0) 0 (-2)), cO q49 2 [.ref n1_53, .ref l1_53], cR n1_53 cA 97 (fun _ => 0), cR l1_53 cA 257 (fun _ => 0)]) XX (c_CR_init l D cA q60 ) (x_cwI 0 XX.2.2.2.2.1 (gi kw_29) rfl rfl (tm kw_28) (tm kw_30) (tm kw_31) rfl ⟨by decide +kernel, by decide +kernel, by decide +kernel⟩ ⟨by decide, by decide⟩) [15] [0, 1, 2, 3, 4, 5, 6, 7, 8, 9, 10, 11, 12, 13, 14] rfl rfl (by decide) (by decide) (by decide) rfl rfl (Nat.le_of_ble_eq_true rfl) d_CX_init_64 ⟨by decide, by decide⟩ (fun w_ hq => ?_)
  obtain ⟨a_64, rfl⟩ := hq
  show xG P0 l E0 rm_CX_init S0 M0 A0 B0 T0 C0 QQ 1 D vwCl AA 16 1140 [cO x 4 [.ref q5, .ref q16, .ref q27, .ref q38, .ref q49, .null], cO q5 0 [.ref q_9, .int (iI 0)], cR q_9 cA 96 (fun _ => 0), cO q16 0 [.ref q_20, .int (iI 0)], cR q_20 cA 96 (fun _ => 0), cO q27 0 [.ref q_31, .int (iI 0)], cR q_31 cA 96 (fun _ => 0), cO q38 3 [.ref a1_42, .ref a2_42, .ref a3_42, .ref a4_42], cR a1_42 cA 97 (fun _ => 0), cR a2_42 cA 97 (fun _ => 0), cR a3_42 cA 96 (fun _ => 0), cR a4_42 cA 97 (iup (fun _ => 0) 0 (-2)), cO q49 2 [.ref n1_53, .ref l1_53], cR n1_53 cA 97 (fun _ => 0), cR l1_53 cA 257 (fun _ => 0), cO q60 1 [.ref a_64, .int (iI 0)], cR a_64 cA 97 (iup (fun _ => 0) 0 (-2))] 67 [(0, .ref x)] [.ref q60, .ref x]
  refine g_putF (C := R_CX) (T := T_CX) (N := 6) (ty := (.object "ColumnIndex$ColumnReader")) (ws' := [cO x 4 [.ref q5, .ref q16, .ref q27, .ref q38, .ref q49, .ref q60], cO q5 0 [.ref q_9, .int (iI 0)], cR q_9 cA 96 (fun _ => 0), cO q16 0 [.ref q_20, .int (iI 0)], cR q_20 cA 96 (fun _ => 0), cO q27 0 [.ref q_31, .int (iI 0)], cR q_31 cA 96 (fun _ => 0), cO q38 3 [.ref a1_42, .ref a2_42, .ref a3_42, .ref a4_42], cR a1_42 cA 97 (fun _ => 0), cR a2_42 cA 97 (fun _ => 0), cR a3_42 cA 96 (fun _ => 0), cR a4_42 cA 97 (iup (fun _ => 0) 0 (-2)), cO q49 2 [.ref n1_53, .ref l1_53], cR n1_53 cA 97 (fun _ => 0), cR l1_53 cA 257 (fun _ => 0), cO q60 1 [.ref a_64, .int (iI 0)], cR a_64 cA 97 (iup (fun _ => 0) 0 (-2))]) XX (tmw win0_CX) ty_CX ok_CX nm_CX 0 rfl rfl 5 (by decide) (tm kw_32) rfl rfl hnm rfl (by decide +kernel) rfl rfl (Nat.le_of_ble_eq_true rfl) rfl d_CX_init_67 ?_
  exact ret _ _ _ [cO x 4 [.ref q5, .ref q16, .ref q27, .ref q38, .ref q49, .ref q60], cO q5 0 [.ref q_9, .int (iI 0)], cR q_9 cA 96 (fun _ => 0), cO q16 0 [.ref q_20, .int (iI 0)], cR q_20 cA 96 (fun _ => 0), cO q27 0 [.ref q_31, .int (iI 0)], cR q_31 cA 96 (fun _ => 0), cO q38 3 [.ref a1_42, .ref a2_42, .ref a3_42, .ref a4_42], cR a1_42 cA 97 (fun _ => 0), cR a2_42 cA 97 (fun _ => 0), cR a3_42 cA 96 (fun _ => 0), cR a4_42 cA 97 (iup (fun _ => 0) 0 (-2)), cO q49 2 [.ref n1_53, .ref l1_53], cR n1_53 cA 97 (fun _ => 0), cR l1_53 cA 257 (fun _ => 0), cO q60 1 [.ref a_64, .int (iI 0)], cR a_64 cA 97 (iup (fun _ => 0) 0 (-2))] [0, 1, 2, 3, 4, 5, 6, 7, 8, 9, 10, 11, 12, 13, 14, 15, 16] d_CX_init_70 (by decide) rfl (⟨q5, q16, q27, q38, q49, q60, q_9, q_20, q_31, a1_42, a2_42, a3_42, a4_42, n1_53, l1_53, a_64, rfl⟩)
abbrev rm_M_init : Room := { frames := 1, cells := 7, slots := 835, locals := 20 }
set_option maxHeartbeats 4000000 in
set_option maxRecDepth 100000 in
theorem c_M_init (l : Launch) (D : va_G) (cA : ClassId) (y : Nat)  : xV l y_MO_init w_MO_init rm_M_init D vwCl [(cA, .int)] [.ref y] [cO y 5 [.int (iI 0), .null, .int (iI 0), .null, .null, .int (iI 0), .null, .null, .null, .null]] (fun w => ∃ (b1 : Nat), ∃ (b2 : Nat), ∃ (b3 : Nat), ∃ (b4 : Nat), ∃ (b5 : Nat), ∃ (b6 : Nat), ∃ (b7 : Nat), w = [cO y 5 [.int (iI 0), .ref b1, .int (iI 0), .ref b2, .ref b3, .int (iI 0), .ref b4, .ref b5, .ref b6, .ref b7], cR b1 cA 96 (fun _ => 0), cR b2 cA 96 (fun _ => 0), cR b3 cA 97 (fun _ => 0), cR b4 cA 96 (fun _ => 0), cR b5 cA 257 (fun _ => 0), cR b6 cA 97 (fun _ => 0), cR b7 cA 96 (fun _ => 0)]) 7 835 := by
  refine xV.of (by decide) rfl (Nat.le_of_ble_eq_true rfl) ?_
  intro P0 E0 S0 M0 A0 B0 T0 C0 AA QQ XX hnm ret
  refine g_aload_n XX d_MO_init_0 rfl 0 rfl ?_
  refine g_objInit XX (tm kw_108) (tm kw_1) (tm kw_2) d_MO_init_1 (by decide) (Nat.le_of_ble_eq_true rfl) ?_
  refine g_aload_n XX d_MO_init_4 rfl 0 rfl ?_
  refine g_bipush (v := 96) XX d_MO_init_5 (by decide) ?_
  refine g_newa (cA := cA) (N' := 96) XX 0 rfl (tm kw_109) (by decide) (by decide) (by decide) (by decide) d_MO_init_7 (fun q7 => ?_)
  show xG P0 l E0 rm_M_init S0 M0 A0 B0 T0 C0 QQ 1 D vwCl AA 1 96 [cO y 5 [.int (iI 0), .null, .int (iI 0), .null, .null, .int (iI 0), .null, .null, .null, .null], cR q7 cA 96 (fun _ => 0)] 9 [(0, .ref y)] [.ref q7, .ref y]
  refine g_putF (C := R_MO) (T := T_MO) (N := 10) (ty := (.array .int)) (ws' := [cO y 5 [.int (iI 0), .ref q7, .int (iI 0), .null, .null, .int (iI 0), .null, .null, .null, .null], cR q7 cA 96 (fun _ => 0)]) XX (tmw win0_MO) ty_MO ok_MO nm_MO 0 rfl rfl 1 (by decide) (tm kw_110) rfl rfl hnm rfl (by decide +kernel) rfl rfl (Nat.le_of_ble_eq_true rfl) rfl d_MO_init_9 ?_
  refine g_aload_n XX d_MO_init_12 rfl 0 rfl ?_
  refine g_bipush (v := 96) XX d_MO_init_13 (by decide) ?_
  refine g_newa (cA := cA) (N' := 96) XX 0 rfl (tm kw_109) (by decide) (by decide) (by decide) (by decide) d_MO_init_15 (fun q15 => ?_)
  show xG P0 l E0 rm_M_init S0 M0 A0 B0 T0 C0 QQ 1 D vwCl AA 2 192 [cO y 5 [.int (iI 0), .ref q7, .int (iI 0), .null, .null, .int (iI 0), .null, .null, .null, .null], cR q7 cA 96 (fun _ => 0), cR q15 cA 96 (fun _ => 0)] 17 [(0, .ref y)] [.ref q15, .ref y]
  refine g_putF (C := R_MO) (T := T_MO) (N := 10) (ty := (.array .int)) (ws' := [cO y 5 [.int (iI 0), .ref q7, .int (iI 0), .ref q15, .null, .int (iI 0), .null, .null, .null, .null], cR q7 cA 96 (fun _ => 0), cR q15 cA 96 (fun _ => 0)]) XX (tmw win0_MO) ty_MO ok_MO nm_MO 0 rfl rfl 3 (by decide) (tm kw_111) rfl rfl hnm rfl (by decide +kernel) rfl rfl (Nat.le_of_ble_eq_true rfl) rfl d_MO_init_17 ?_
  refine g_aload_n XX d_MO_init_20 rfl 0 rfl ?_
  refine g_bipush (v := 97) XX d_MO_init_21 (by decide) ?_
  refine g_newa (cA := cA) (N' := 97) XX 0 rfl (tm kw_109) (by decide) (by decide) (by decide) (by decide) d_MO_init_23 (fun q23 => ?_)
  show xG P0 l E0 rm_M_init S0 M0 A0 B0 T0 C0 QQ 1 D vwCl AA 3 289 [cO y 5 [.int (iI 0), .ref q7, .int (iI 0), .ref q15, .null, .int (iI 0), .null, .null, .null, .null], cR q7 cA 96 (fun _ => 0), cR q15 cA 96 (fun _ => 0), cR q23 cA 97 (fun _ => 0)] 25 [(0, .ref y)] [.ref q23, .ref y]
  refine g_putF (C := R_MO) (T := T_MO) (N := 10) (ty := (.array .int)) (ws' := [cO y 5 [.int (iI 0), .ref q7, .int (iI 0), .ref q15, .ref q23, .int (iI 0), .null, .null, .null, .null], cR q7 cA 96 (fun _ => 0), cR q15 cA 96 (fun _ => 0), cR q23 cA 97 (fun _ => 0)]) XX (tmw win0_MO) ty_MO ok_MO nm_MO 0 rfl rfl 4 (by decide) (tm kw_112) rfl rfl hnm rfl (by decide +kernel) rfl rfl (Nat.le_of_ble_eq_true rfl) rfl d_MO_init_25 ?_
  refine g_aload_n XX d_MO_init_28 rfl 0 rfl ?_
  refine g_bipush (v := 96) XX d_MO_init_29 (by decide) ?_
  refine g_newa (cA := cA) (N' := 96) XX 0 rfl (tm kw_109) (by decide) (by decide) (by decide) (by decide) d_MO_init_31 (fun q31 => ?_)
  show xG P0 l E0 rm_M_init S0 M0 A0 B0 T0 C0 QQ 1 D vwCl AA 4 385 [cO y 5 [.int (iI 0), .ref q7, .int (iI 0), .ref q15, .ref q23, .int (iI 0), .null, .null, .null, .null], cR q7 cA 96 (fun _ => 0), cR q15 cA 96 (fun _ => 0), cR q23 cA 97 (fun _ => 0), cR q31 cA 96 (fun _ => 0)] 33 [(0, .ref y)] [.ref q31, .ref y]
  refine g_putF (C := R_MO) (T := T_MO) (N := 10) (ty := (.array .int)) (ws' := [cO y 5 [.int (iI 0), .ref q7, .int (iI 0), .ref q15, .ref q23, .int (iI 0), .ref q31, .null, .null, .null], cR q7 cA 96 (fun _ => 0), cR q15 cA 96 (fun _ => 0), cR q23 cA 97 (fun _ => 0), cR q31 cA 96 (fun _ => 0)]) XX (tmw win0_MO) ty_MO ok_MO nm_MO 0 rfl rfl 6 (by decide) (tm kw_113) rfl rfl hnm rfl (by decide +kernel) rfl rfl (Nat.le_of_ble_eq_true rfl) rfl d_MO_init_33 ?_
  refine g_aload_n XX d_MO_init_36 rfl 0 rfl ?_
  refine g_sipush (v := 257) XX d_MO_init_37 (by decide) ?_
  refine g_newa (cA := cA) (N' := 257) XX 0 rfl (tm kw_109) (by decide) (by decide) (by decide) (by decide) d_MO_init_40 (fun q40 => ?_)
  show xG P0 l E0 rm_M_init S0 M0 A0 B0 T0 C0 QQ 1 D vwCl AA 5 642 [cO y 5 [.int (iI 0), .ref q7, .int (iI 0), .ref q15, .ref q23, .int (iI 0), .ref q31, .null, .null, .null], cR q7 cA 96 (fun _ => 0), cR q15 cA 96 (fun _ => 0), cR q23 cA 97 (fun _ => 0), cR q31 cA 96 (fun _ => 0), cR q40 cA 257 (fun _ => 0)] 42 [(0, .ref y)] [.ref q40, .ref y]
  refine g_putF (C := R_MO) (T := T_MO) (N := 10) (ty := (.array .int)) (ws' := [cO y 5 [.int (iI 0), .ref q7, .int (iI 0), .ref q15, .ref q23, .int (iI 0), .ref q31, .ref q40, .null, .null], cR q7 cA 96 (fun _ => 0), cR q15 cA 96 (fun _ => 0), cR q23 cA 97 (fun _ => 0), cR q31 cA 96 (fun _ => 0), cR q40 cA 257 (fun _ => 0)]) XX (tmw win0_MO) ty_MO ok_MO nm_MO 0 rfl rfl 7 (by decide) (tm kw_114) rfl rfl hnm rfl (by decide +kernel) rfl rfl (Nat.le_of_ble_eq_true rfl) rfl d_MO_init_42 ?_
  refine g_aload_n XX d_MO_init_45 rfl 0 rfl ?_
  refine g_bipush (v := 97) XX d_MO_init_46 (by decide) ?_
  refine g_newa (cA := cA) (N' := 97) XX 0 rfl (tm kw_109) (by decide) (by decide) (by decide) (by decide) d_MO_init_48 (fun q48 => ?_)
  show xG P0 l E0 rm_M_init S0 M0 A0 B0 T0 C0 QQ 1 D vwCl AA 6 739 [cO y 5 [.int (iI 0), .ref q7, .int (iI 0), .ref q15, .ref q23, .int (iI 0), .ref q31, .ref q40, .null, .null], cR q7 cA 96 (fun _ => 0), cR q15 cA 96 (fun _ => 0), cR q23 cA 97 (fun _ => 0), cR q31 cA 96 (fun _ => 0), cR q40 cA 257 (fun _ => 0), cR q48 cA 97 (fun _ => 0)] 50 [(0, .ref y)] [.ref q48, .ref y]
  refine g_putF (C := R_MO) (T := T_MO) (N := 10) (ty := (.array .int)) (ws' := [cO y 5 [.int (iI 0), .ref q7, .int (iI 0), .ref q15, .ref q23, .int (iI 0), .ref q31, .ref q40, .ref q48, .null], cR q7 cA 96 (fun _ => 0), cR q15 cA 96 (fun _ => 0), cR q23 cA 97 (fun _ => 0), cR q31 cA 96 (fun _ => 0), cR q40 cA 257 (fun _ => 0), cR q48 cA 97 (fun _ => 0)]) XX (tmw win0_MO) ty_MO ok_MO nm_MO 0 rfl rfl 8 (by decide) (tm kw_115) rfl rfl hnm rfl (by decide +kernel) rfl rfl (Nat.le_of_ble_eq_true rfl) rfl d_MO_init_50 ?_
  refine g_aload_n XX d_MO_init_53 rfl 0 rfl ?_
  refine g_bipush (v := 96) XX d_MO_init_54 (by decide) ?_
  refine g_newa (cA := cA) (N' := 96) XX 0 rfl (tm kw_109) (by decide) (by decide) (by decide) (by decide) d_MO_init_56 (fun q56 => ?_)
  show xG P0 l E0 rm_M_init S0 M0 A0 B0 T0 C0 QQ 1 D vwCl AA 7 835 [cO y 5 [.int (iI 0), .ref q7, .int (iI 0), .ref q15, .ref q23, .int (iI 0), .ref q31, .ref q40, .ref q48, .null], cR q7 cA 96 (fun _ => 0), cR q15 cA 96 (fun _ => 0), cR q23 cA 97 (fun _ => 0), cR q31 cA 96 (fun _ => 0), cR q40 cA 257 (fun _ => 0), cR q48 cA 97 (fun _ => 0), cR q56 cA 96 (fun _ => 0)] 58 [(0, .ref y)] [.ref q56, .ref y]
  refine g_putF (C := R_MO) (T := T_MO) (N := 10) (ty := (.array .int)) (ws' := [cO y 5 [.int (iI 0), .ref q7, .int (iI 0), .ref q15, .ref q23, .int (iI 0), .ref q31, .ref q40, .ref q48, .ref q56], cR q7 cA 96 (fun _ => 0), cR q15 cA 96 (fun _ => 0), cR q23 cA 97 (fun _ => 0), cR q31 cA 96 (fun _ => 0), cR q40 cA 257 (fun _ => 0), cR q48 cA 97 (fun _ => 0), cR q56 cA 96 (fun _ => 0)]) XX (tmw win0_MO) ty_MO ok_MO nm_MO 0 rfl rfl 9 (by decide) (tm kw_116) rfl rfl hnm rfl (by decide +kernel) rfl rfl (Nat.le_of_ble_eq_true rfl) rfl d_MO_init_58 ?_
  exact ret _ _ _ [cO y 5 [.int (iI 0), .ref q7, .int (iI 0), .ref q15, .ref q23, .int (iI 0), .ref q31, .ref q40, .ref q48, .ref q56], cR q7 cA 96 (fun _ => 0), cR q15 cA 96 (fun _ => 0), cR q23 cA 97 (fun _ => 0), cR q31 cA 96 (fun _ => 0), cR q40 cA 257 (fun _ => 0), cR q48 cA 97 (fun _ => 0), cR q56 cA 96 (fun _ => 0)] [0, 1, 2, 3, 4, 5, 6, 7] d_MO_init_61 (by decide) rfl (⟨q7, q15, q23, q31, q40, q48, q56, rfl⟩)
