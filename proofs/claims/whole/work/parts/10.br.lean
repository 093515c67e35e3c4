abbrev rm_BR_clear : Room := { frames := 0, cells := 0, slots := 0, locals := 0 }
set_option maxHeartbeats 4000000 in
set_option maxRecDepth 100000 in
theorem c_BR_clear (l : Launch) (D : va_G) (cA : ClassId) (h q : Nat) (n : Int)  : xV l y_BR_clear w_BR_clear rm_BR_clear D vwCl [(cA, .int)] [.ref h] [cO h 0 [.ref q, .int (iI n)]] (fun w => w = [cO h 0 [.ref q, .int (iI 0)]]) 0 0 := by
  refine xV.of (by decide) rfl (Nat.le_of_ble_eq_true rfl) ?_
  intro P0 E0 S0 M0 A0 B0 T0 C0 AA QQ XX hnm ret
  refine g_aload_n XX d_BR_clear_0 rfl 0 rfl ?_
  refine g_iconst XX d_BR_clear_1 ?_
  refine g_put (C := R_BR) (T := T_BR) (N := 2) (ty := (.int)) (ws' := [cO h 0 [.ref q, .int (iI 0)]]) XX (tmw win0_BR) ty_BR ok_BR nm_BR 0 rfl rfl 1 (by decide) (tm kw_160) rfl rfl (by decide +kernel) rfl rfl (Nat.le_of_ble_eq_true rfl) rfl d_BR_clear_2 ?_
  exact ret _ _ _ [cO h 0 [.ref q, .int (iI 0)]] [0] d_BR_clear_5 (by decide) rfl rfl
abbrev rm_BR_append : Room := { frames := 0, cells := 0, slots := 0, locals := 0 }
set_option maxHeartbeats 4000000 in
set_option maxRecDepth 100000 in
theorem c_BR_append (l : Launch) (D : va_G) (cA : ClassId) (h q : Nat) (f : Int → Int) (n b : Int) (hn : 0 ≤ n ∧ n < 96) : xV l y_BR_append w_BR_append rm_BR_append D vwCl [(cA, .int)] [.ref h, .int (iI b)] [cO h 0 [.ref q, .int (iI n)], cR q cA 96 f] (fun w => w = [cO h 0 [.ref q, .int (iI (n + 1))], cR q cA 96 (iup f n b)]) 0 0 := by
  refine xV.of (by decide) rfl (Nat.le_of_ble_eq_true rfl) ?_
  intro P0 E0 S0 M0 A0 B0 T0 C0 AA QQ XX hnm ret
  refine g_aload_n XX d_BR_append_0 rfl 0 rfl ?_
  refine g_get (C := R_BR) (T := T_BR) (N := 2) XX (tmw win0_BR) 0 rfl rfl 1 (by decide) (tm kw_160) rfl rfl d_BR_append_1 ?_
  refine g_bipush (v := 96) XX d_BR_append_4 (by decide) ?_
  refine g_icmp_ge (tgt := 29) XX d_BR_append_6 (by decide) ⟨by omega, by omega⟩ ⟨by omega, by omega⟩ (fun h6 => by exfalso; omega) (fun h6 => ?_)
  refine g_aload_n XX d_BR_append_9 rfl 0 rfl ?_
  refine g_get (C := R_BR) (T := T_BR) (N := 2) XX (tmw win0_BR) 0 rfl rfl 0 (by decide) (tm kw_159) rfl rfl d_BR_append_10 ?_
  refine g_aload_n XX d_BR_append_13 rfl 0 rfl ?_
  refine g_get (C := R_BR) (T := T_BR) (N := 2) XX (tmw win0_BR) 0 rfl rfl 1 (by decide) (tm kw_160) rfl rfl d_BR_append_14 ?_
  refine g_iload_n XX d_BR_append_17 rfl 1 rfl ?_
  refine g_iast (ws' := [cO h 0 [.ref q, .int (iI n)], cR q cA 96 (iup f n b)]) XX 1 0 rfl rfl ⟨by omega, by omega, by decide⟩ rfl d_BR_append_18 ?_
  refine g_aload_n XX d_BR_append_19 rfl 0 rfl ?_
  refine g_dup XX d_BR_append_20 rfl ?_
  refine g_get (C := R_BR) (T := T_BR) (N := 2) XX (tmw win0_BR) 0 rfl rfl 1 (by decide) (tm kw_160) rfl rfl d_BR_append_21 ?_
  refine g_iconst XX d_BR_append_24 ?_
  refine g_iadd XX d_BR_append_25 ?_
  refine g_put (C := R_BR) (T := T_BR) (N := 2) (ty := (.int)) (ws' := [cO h 0 [.ref q, .int (iI (n + 1))], cR q cA 96 (iup f n b)]) XX (tmw win0_BR) ty_BR ok_BR nm_BR 0 rfl rfl 1 (by decide) (tm kw_160) rfl rfl (by decide +kernel) rfl rfl (Nat.le_of_ble_eq_true rfl) rfl d_BR_append_26 ?_
  exact ret _ _ _ [cO h 0 [.ref q, .int (iI (n + 1))], cR q cA 96 (iup f n b)] [0, 1] d_BR_append_29 (by decide) rfl rfl
abbrev rm_BR_front : Room := { frames := 1, cells := 0, slots := 0, locals := 26 }
set_option maxHeartbeats 4000000 in
set_option maxRecDepth 100000 in
theorem c_BR_front (l : Launch) (D : va_G) (cA : ClassId) (h q : Nat) (f : Int → Int) (n b : Int) (hn : 0 ≤ n ∧ n < 96) : xV l y_BR_putInFront w_BR_putInFront rm_BR_front D vwCl [(cA, .int)] [.ref h, .int (iI b)] [cO h 0 [.ref q, .int (iI n)], cR q cA 96 f] (fun w => w = [cO h 0 [.ref q, .int (iI (n + 1))], cR q cA 96 (iup (icpy f f 0 1 n) 0 b)]) 0 0 := by
  refine xV.of (by decide) rfl (Nat.le_of_ble_eq_true rfl) ?_
  intro P0 E0 S0 M0 A0 B0 T0 C0 AA QQ XX hnm ret
  refine g_aload_n XX d_BR_putInFront_0 rfl 0 rfl ?_
  refine g_get (C := R_BR) (T := T_BR) (N := 2) XX (tmw win0_BR) 0 rfl rfl 1 (by decide) (tm kw_160) rfl rfl d_BR_putInFront_1 ?_
  refine g_bipush (v := 96) XX d_BR_putInFront_4 (by decide) ?_
  refine g_icmp_ge (tgt := 43) XX d_BR_putInFront_6 (by decide) ⟨by omega, by omega⟩ ⟨by omega, by omega⟩ (fun h6 => by exfalso; omega) (fun h6 => ?_)
  refine g_aload_n XX d_BR_putInFront_9 rfl 0 rfl ?_
  refine g_get (C := R_BR) (T := T_BR) (N := 2) XX (tmw win0_BR) 0 rfl rfl 0 (by decide) (tm kw_159) rfl rfl d_BR_putInFront_10 ?_
  refine g_iconst XX d_BR_putInFront_13 ?_
  refine g_aload_n XX d_BR_putInFront_14 rfl 0 rfl ?_
  refine g_get (C := R_BR) (T := T_BR) (N := 2) XX (tmw win0_BR) 0 rfl rfl 0 (by decide) (tm kw_159) rfl rfl d_BR_putInFront_15 ?_
  refine g_iconst XX d_BR_putInFront_18 ?_
  refine g_aload_n XX d_BR_putInFront_19 rfl 0 rfl ?_
  refine g_get (C := R_BR) (T := T_BR) (N := 2) XX (tmw win0_BR) 0 rfl rfl 1 (by decide) (tm kw_160) rfl rfl d_BR_putInFront_20 ?_
  refine g_copy (ws' := [cO h 0 [.ref q, .int (iI n)], cR q cA 96 (icpy f f 0 1 n)]) XX (tm kw_161) (tm kw_162) (tm kw_163) (tm kw_164) 1 1 0 0 rfl rfl rfl rfl ⟨by omega, by omega, by omega, by omega, by omega, by decide, by decide⟩ (by decide) (Nat.le_of_ble_eq_true rfl) rfl d_BR_putInFront_23 ?_
  refine g_aload_n XX d_BR_putInFront_26 rfl 0 rfl ?_
  refine g_get (C := R_BR) (T := T_BR) (N := 2) XX (tmw win0_BR) 0 rfl rfl 0 (by decide) (tm kw_159) rfl rfl d_BR_putInFront_27 ?_
  refine g_iconst XX d_BR_putInFront_30 ?_
  refine g_iload_n XX d_BR_putInFront_31 rfl 1 rfl ?_
  refine g_iast (ws' := [cO h 0 [.ref q, .int (iI n)], cR q cA 96 (iup (icpy f f 0 1 n) 0 b)]) XX 1 0 rfl rfl ⟨by omega, by omega, by decide⟩ rfl d_BR_putInFront_32 ?_
  refine g_aload_n XX d_BR_putInFront_33 rfl 0 rfl ?_
  refine g_dup XX d_BR_putInFront_34 rfl ?_
  refine g_get (C := R_BR) (T := T_BR) (N := 2) XX (tmw win0_BR) 0 rfl rfl 1 (by decide) (tm kw_160) rfl rfl d_BR_putInFront_35 ?_
  refine g_iconst XX d_BR_putInFront_38 ?_
  refine g_iadd XX d_BR_putInFront_39 ?_
  refine g_put (C := R_BR) (T := T_BR) (N := 2) (ty := (.int)) (ws' := [cO h 0 [.ref q, .int (iI (n + 1))], cR q cA 96 (iup (icpy f f 0 1 n) 0 b)]) XX (tmw win0_BR) ty_BR ok_BR nm_BR 0 rfl rfl 1 (by decide) (tm kw_160) rfl rfl (by decide +kernel) rfl rfl (Nat.le_of_ble_eq_true rfl) rfl d_BR_putInFront_40 ?_
  exact ret _ _ _ [cO h 0 [.ref q, .int (iI (n + 1))], cR q cA 96 (iup (icpy f f 0 1 n) 0 b)] [0, 1] d_BR_putInFront_43 (by decide) rfl rfl
abbrev rm_BR_copy : Room := { frames := 1, cells := 0, slots := 0, locals := 26 }
set_option maxHeartbeats 4000000 in
set_option maxRecDepth 100000 in
theorem c_BR_copy (l : Launch) (D : va_G) (cA : ClassId) (h q k a : Nat) (f g : Int → Int) (n m : Int) (hm : 0 ≤ m ∧ m ≤ 96) : xV l y_BR_copyFrom w_BR_copyFrom rm_BR_copy D vwCl [(cA, .int)] [.ref h, .ref k] [cO h 0 [.ref q, .int (iI n)], cR q cA 96 f, cO k 0 [.ref a, .int (iI m)], cR a cA 96 g] (fun w => w = [cO h 0 [.ref q, .int (iI m)], cR q cA 96 (icpy g f 0 0 m), cO k 0 [.ref a, .int (iI m)], cR a cA 96 g]) 0 0 := by
  refine xV.of (by decide) rfl (Nat.le_of_ble_eq_true rfl) ?_
  intro P0 E0 S0 M0 A0 B0 T0 C0 AA QQ XX hnm ret
  refine g_aload_n XX d_BR_copyFrom_0 rfl 1 rfl ?_
  refine g_get (C := R_BR) (T := T_BR) (N := 2) XX (tmw win0_BR) 2 rfl rfl 0 (by decide) (tm kw_159) rfl rfl d_BR_copyFrom_1 ?_
  refine g_iconst XX d_BR_copyFrom_4 ?_
  refine g_aload_n XX d_BR_copyFrom_5 rfl 0 rfl ?_
  refine g_get (C := R_BR) (T := T_BR) (N := 2) XX (tmw win0_BR) 0 rfl rfl 0 (by decide) (tm kw_159) rfl rfl d_BR_copyFrom_6 ?_
  refine g_iconst XX d_BR_copyFrom_9 ?_
  refine g_aload_n XX d_BR_copyFrom_10 rfl 1 rfl ?_
  refine g_get (C := R_BR) (T := T_BR) (N := 2) XX (tmw win0_BR) 2 rfl rfl 1 (by decide) (tm kw_160) rfl rfl d_BR_copyFrom_11 ?_
  refine g_copy (ws' := [cO h 0 [.ref q, .int (iI n)], cR q cA 96 (icpy g f 0 0 m), cO k 0 [.ref a, .int (iI m)], cR a cA 96 g]) XX (tm kw_161) (tm kw_162) (tm kw_163) (tm kw_164) 3 1 0 0 rfl rfl rfl rfl ⟨by omega, by omega, by omega, by omega, by omega, by decide, by decide⟩ (by decide) (Nat.le_of_ble_eq_true rfl) rfl d_BR_copyFrom_14 ?_
  refine g_aload_n XX d_BR_copyFrom_17 rfl 0 rfl ?_
  refine g_aload_n XX d_BR_copyFrom_18 rfl 1 rfl ?_
  refine g_get (C := R_BR) (T := T_BR) (N := 2) XX (tmw win0_BR) 2 rfl rfl 1 (by decide) (tm kw_160) rfl rfl d_BR_copyFrom_19 ?_
  refine g_put (C := R_BR) (T := T_BR) (N := 2) (ty := (.int)) (ws' := [cO h 0 [.ref q, .int (iI m)], cR q cA 96 (icpy g f 0 0 m), cO k 0 [.ref a, .int (iI m)], cR a cA 96 g]) XX (tmw win0_BR) ty_BR ok_BR nm_BR 0 rfl rfl 1 (by decide) (tm kw_160) rfl rfl (by decide +kernel) rfl rfl (Nat.le_of_ble_eq_true rfl) rfl d_BR_copyFrom_22 ?_
  exact ret _ _ _ [cO h 0 [.ref q, .int (iI m)], cR q cA 96 (icpy g f 0 0 m), cO k 0 [.ref a, .int (iI m)], cR a cA 96 g] [0, 1, 2, 3] d_BR_copyFrom_25 (by decide) rfl rfl
abbrev rm_BR_alike : Room := { frames := 1, cells := 0, slots := 0, locals := 21 }
set_option maxHeartbeats 4000000 in
set_option maxRecDepth 100000 in
theorem c_BR_alike (l : Launch) (D : va_G) (cA : ClassId) (h q k a : Nat) (f g F G : Int → Int) (n m i j : Int) (hn : 0 ≤ n ∧ n ≤ 96 ∧ 0 ≤ m ∧ m ≤ 96) (hi : 0 ≤ i ∧ i ≤ n) (hj : 0 ≤ j ∧ j ≤ m) (hf : ag f F n) (hg : ag g G m) (hbf : bt8 F n) (hbg : bt8 G m) : xM l y_BR_alike w_BR_alike rm_BR_alike D vwCl [(cA, .int)] [.ref h, .int (iI i), .ref k, .int (iI j)] [cO h 0 [.ref q, .int (iI n)], cR q cA 96 f, cO k 0 [.ref a, .int (iI m)], cR a cA 96 g] (fun r w => r = iI (al F n G m i j) ∧ w = [cO h 0 [.ref q, .int (iI n)], cR q cA 96 f, cO k 0 [.ref a, .int (iI m)], cR a cA 96 g]) 0 0 := by
  refine xM.ofI (by decide) rfl (Nat.le_of_ble_eq_true rfl) ?_
  intro P0 E0 S0 M0 A0 B0 T0 C0 AA QQ XX hnm ret
  refine g_aload_n XX d_BR_alike_0 rfl 0 rfl ?_
  refine g_get (C := R_BR) (T := T_BR) (N := 2) XX (tmw win0_BR) 0 rfl rfl 1 (by decide) (tm kw_160) rfl rfl d_BR_alike_1 ?_
  refine g_iload_n XX d_BR_alike_4 rfl 1 rfl ?_
  refine g_isub XX d_BR_alike_5 ?_
  refine g_aload_n XX d_BR_alike_6 rfl 2 rfl ?_
  refine g_get (C := R_BR) (T := T_BR) (N := 2) XX (tmw win0_BR) 2 rfl rfl 1 (by decide) (tm kw_160) rfl rfl d_BR_alike_7 ?_
  refine g_iload_n XX d_BR_alike_10 rfl 3 rfl ?_
  refine g_isub XX d_BR_alike_11 ?_
  refine g_mmin XX (tm kw_165) (tm kw_62) (tm kw_63) (tm kw_64) (by decide) (Nat.le_of_ble_eq_true rfl) (by decide) (by decide) ⟨by omega, by omega⟩ ⟨by omega, by omega⟩ d_BR_alike_12 ?_
  refine g_istore (lv' := [(4, .int (iI (min (n - i) (m - j)))), (0, .ref h), (1, .int (iI i)), (2, .ref k), (3, .int (iI j))]) XX d_BR_alike_15 (by decide) rfl ?_
  refine g_iconst XX d_BR_alike_17 ?_
  refine g_istore (lv' := [(5, .int (iI 0)), (4, .int (iI (min (n - i) (m - j)))), (0, .ref h), (1, .int (iI i)), (2, .ref k), (3, .int (iI j))]) XX d_BR_alike_18 (by decide) rfl ?_
  have L20 : ∀ (k_20 : Nat) (cc : Int), (0 ≤ cc ∧ cc ≤ min (n - i) (m - j)) → (∀ j0, 0 ≤ j0 → j0 < cc → F (i + j0) = G (j + j0)) → (min (n - i) (m - j) - cc).toNat = k_20 → xG P0 l E0 rm_BR_alike S0 M0 A0 B0 T0 C0 QQ 6 D vwCl AA 0 0 [cO h 0 [.ref q, .int (iI n)], cR q cA 96 f, cO k 0 [.ref a, .int (iI m)], cR a cA 96 g] 20 [(5, .int (iI cc)), (4, .int (iI (min (n - i) (m - j)))), (0, .ref h), (1, .int (iI i)), (2, .ref k), (3, .int (iI j))] [] := by
    refine x_ind (fun k_20 ih_20 cc hc he hk_20 => ?_)
    refine g_iload XX d_BR_alike_20 0 rfl ?_
    refine g_iload XX d_BR_alike_22 1 rfl ?_
    refine g_icmp_ge (tgt := 54) XX d_BR_alike_24 (by decide) ⟨by omega, by omega⟩ ⟨by omega, by omega⟩ (fun h24 => ?_) (fun h24 => ?_)
    · -- 24: yes
      refine g_iload XX d_BR_alike_54 0 rfl ?_
      exact ret _ _ _ _ [cO h 0 [.ref q, .int (iI n)], cR q cA 96 f, cO k 0 [.ref a, .int (iI m)], cR a cA 96 g] [0, 1, 2, 3] d_BR_alike_56 (by decide) rfl (⟨congrArg iI (al_eq (show isAl F n G m i j cc from ⟨by omega, by omega, by omega, he, by omega⟩)).symm, rfl⟩)
    · -- 24: no
      refine g_aload_n XX d_BR_alike_27 rfl 2 rfl ?_
      refine g_get (C := R_BR) (T := T_BR) (N := 2) XX (tmw win0_BR) 0 rfl rfl 0 (by decide) (tm kw_159) rfl rfl d_BR_alike_28 ?_
      refine g_iload_n XX d_BR_alike_31 rfl 3 rfl ?_
      refine g_iload XX d_BR_alike_32 0 rfl ?_
      refine g_iadd XX d_BR_alike_34 ?_
      refine g_iald XX 1 0 rfl rfl ⟨by omega, by omega, by decide⟩ d_BR_alike_35 ?_
      refine g_aload_n XX d_BR_alike_36 rfl 4 rfl ?_
      refine g_get (C := R_BR) (T := T_BR) (N := 2) XX (tmw win0_BR) 2 rfl rfl 0 (by decide) (tm kw_159) rfl rfl d_BR_alike_37 ?_
      refine g_iload_n XX d_BR_alike_40 rfl 5 rfl ?_
      refine g_iload XX d_BR_alike_41 0 rfl ?_
      refine g_iadd XX d_BR_alike_43 ?_
      refine g_iald XX 3 0 rfl rfl ⟨by omega, by omega, by decide⟩ d_BR_alike_44 ?_
      have e1 := hf (i + cc) (by omega) (by omega)
      have e2 := hg (j + cc) (by omega) (by omega)
      have b1 := hbf (i + cc) (by omega) (by omega)
      have b2 := hbg (j + cc) (by omega) (by omega)
      refine g_icmp_ne (tgt := 54) XX d_BR_alike_45 (by decide) ⟨by omega, by omega⟩ ⟨by omega, by omega⟩ (fun h45 => ?_) (fun h45 => ?_)
      · -- 45: yes
        refine g_iload XX d_BR_alike_54 0 rfl ?_
        exact ret _ _ _ _ [cO h 0 [.ref q, .int (iI n)], cR q cA 96 f, cO k 0 [.ref a, .int (iI m)], cR a cA 96 g] [0, 1, 2, 3] d_BR_alike_56 (by decide) rfl (⟨congrArg iI (al_eq (show isAl F n G m i j cc from ⟨by omega, by omega, by omega, he, by omega⟩)).symm, rfl⟩)
      · -- 45: no
        refine g_iinc (lv' := [(5, .int (iI (cc + 1))), (4, .int (iI (min (n - i) (m - j)))), (0, .ref h), (1, .int (iI i)), (2, .ref k), (3, .int (iI j))]) XX d_BR_alike_48 0 rfl (by decide) rfl ?_
        refine g_goto (tgt := 20) XX d_BR_alike_51 (by decide) ?_
        exact ih_20 _ (by omega) (cc + 1) (by omega) (all_s he (by show F (i + cc) = G (j + cc); omega)) rfl
  exact L20 _ 0 (by omega) (fun j0 a b => by omega) rfl
abbrev rm_BR_alikeS : Room := { frames := 1, cells := 0, slots := 0, locals := 21 }
set_option maxHeartbeats 4000000 in
set_option maxRecDepth 100000 in
theorem c_BR_alikeS (l : Launch) (D : va_G) (cA : ClassId) (h q : Nat) (f F : Int → Int) (n i j : Int) (hn : 0 ≤ n ∧ n ≤ 96) (hi : 0 ≤ i ∧ i ≤ n) (hj : 0 ≤ j ∧ j ≤ n) (hf : ag f F n) (hbf : bt8 F n) : xM l y_BR_alike w_BR_alike rm_BR_alikeS D vwCl [(cA, .int)] [.ref h, .int (iI i), .ref h, .int (iI j)] [cO h 0 [.ref q, .int (iI n)], cR q cA 96 f] (fun r w => r = iI (al F n F n i j) ∧ w = [cO h 0 [.ref q, .int (iI n)], cR q cA 96 f]) 0 0 := by
  refine xM.ofI (by decide) rfl (Nat.le_of_ble_eq_true rfl) ?_
  intro P0 E0 S0 M0 A0 B0 T0 C0 AA QQ XX hnm ret
  refine g_aload_n XX d_BR_alike_0 rfl 0 rfl ?_
  refine g_get (C := R_BR) (T := T_BR) (N := 2) XX (tmw win0_BR) 0 rfl rfl 1 (by decide) (tm kw_160) rfl rfl d_BR_alike_1 ?_
  refine g_iload_n XX d_BR_alike_4 rfl 1 rfl ?_
  refine g_isub XX d_BR_alike_5 ?_
  refine g_aload_n XX d_BR_alike_6 rfl 2 rfl ?_
  refine g_get (C := R_BR) (T := T_BR) (N := 2) XX (tmw win0_BR) 0 rfl rfl 1 (by decide) (tm kw_160) rfl rfl d_BR_alike_7 ?_
  refine g_iload_n XX d_BR_alike_10 rfl 3 rfl ?_
  refine g_isub XX d_BR_alike_11 ?_
  refine g_mmin XX (tm kw_165) (tm kw_62) (tm kw_63) (tm kw_64) (by decide) (Nat.le_of_ble_eq_true rfl) (by decide) (by decide) ⟨by omega, by omega⟩ ⟨by omega, by omega⟩ d_BR_alike_12 ?_
  refine g_istore (lv' := [(4, .int (iI (min (n - i) (n - j)))), (0, .ref h), (1, .int (iI i)), (2, .ref h), (3, .int (iI j))]) XX d_BR_alike_15 (by decide) rfl ?_
  refine g_iconst XX d_BR_alike_17 ?_
  refine g_istore (lv' := [(5, .int (iI 0)), (4, .int (iI (min (n - i) (n - j)))), (0, .ref h), (1, .int (iI i)), (2, .ref h), (3, .int (iI j))]) XX d_BR_alike_18 (by decide) rfl ?_
  have L20 : ∀ (k_20 : Nat) (cc : Int), (0 ≤ cc ∧ cc ≤ min (n - i) (n - j)) → (∀ j0, 0 ≤ j0 → j0 < cc → F (i + j0) = F (j + j0)) → (min (n - i) (n - j) - cc).toNat = k_20 → xG P0 l E0 rm_BR_alikeS S0 M0 A0 B0 T0 C0 QQ 6 D vwCl AA 0 0 [cO h 0 [.ref q, .int (iI n)], cR q cA 96 f] 20 [(5, .int (iI cc)), (4, .int (iI (min (n - i) (n - j)))), (0, .ref h), (1, .int (iI i)), (2, .ref h), (3, .int (iI j))] [] := by
    refine x_ind (fun k_20 ih_20 cc hc he hk_20 => ?_)
    refine g_iload XX d_BR_alike_20 0 rfl ?_
    refine g_iload XX d_BR_alike_22 1 rfl ?_
    refine g_icmp_ge (tgt := 54) XX d_BR_alike_24 (by decide) ⟨by omega, by omega⟩ ⟨by omega, by omega⟩ (fun h24 => ?_) (fun h24 => ?_)
    · -- 24: yes
      refine g_iload XX d_BR_alike_54 0 rfl ?_
      exact ret _ _ _ _ [cO h 0 [.ref q, .int (iI n)], cR q cA 96 f] [0, 1] d_BR_alike_56 (by decide) rfl (⟨congrArg iI (al_eq (show isAl F n F n i j cc from ⟨by omega, by omega, by omega, he, by omega⟩)).symm, rfl⟩)
    · -- 24: no
      refine g_aload_n XX d_BR_alike_27 rfl 2 rfl ?_
      refine g_get (C := R_BR) (T := T_BR) (N := 2) XX (tmw win0_BR) 0 rfl rfl 0 (by decide) (tm kw_159) rfl rfl d_BR_alike_28 ?_
      refine g_iload_n XX d_BR_alike_31 rfl 3 rfl ?_
      refine g_iload XX d_BR_alike_32 0 rfl ?_
      refine g_iadd XX d_BR_alike_34 ?_
      refine g_iald XX 1 0 rfl rfl ⟨by omega, by omega, by decide⟩ d_BR_alike_35 ?_
      refine g_aload_n XX d_BR_alike_36 rfl 4 rfl ?_
      refine g_get (C := R_BR) (T := T_BR) (N := 2) XX (tmw win0_BR) 0 rfl rfl 0 (by decide) (tm kw_159) rfl rfl d_BR_alike_37 ?_
      refine g_iload_n XX d_BR_alike_40 rfl 5 rfl ?_
      refine g_iload XX d_BR_alike_41 0 rfl ?_
      refine g_iadd XX d_BR_alike_43 ?_
      refine g_iald XX 1 0 rfl rfl ⟨by omega, by omega, by decide⟩ d_BR_alike_44 ?_
      have e1 := hf (i + cc) (by omega) (by omega)
      have e2 := hf (j + cc) (by omega) (by omega)
      have b1 := hbf (i + cc) (by omega) (by omega)
      have b2 := hbf (j + cc) (by omega) (by omega)
      refine g_icmp_ne (tgt := 54) XX d_BR_alike_45 (by decide) ⟨by omega, by omega⟩ ⟨by omega, by omega⟩ (fun h45 => ?_) (fun h45 => ?_)
      · -- 45: yes
        refine g_iload XX d_BR_alike_54 0 rfl ?_
        exact ret _ _ _ _ [cO h 0 [.ref q, .int (iI n)], cR q cA 96 f] [0, 1] d_BR_alike_56 (by decide) rfl (⟨congrArg iI (al_eq (show isAl F n F n i j cc from ⟨by omega, by omega, by omega, he, by omega⟩)).symm, rfl⟩)
      · -- 45: no
        refine g_iinc (lv' := [(5, .int (iI (cc + 1))), (4, .int (iI (min (n - i) (n - j)))), (0, .ref h), (1, .int (iI i)), (2, .ref h), (3, .int (iI j))]) XX d_BR_alike_48 0 rfl (by decide) rfl ?_
        refine g_goto (tgt := 20) XX d_BR_alike_51 (by decide) ?_
        exact ih_20 _ (by omega) (cc + 1) (by omega) (all_s he (by show F (i + cc) = F (j + cc); omega)) rfl
  exact L20 _ 0 (by omega) (fun j0 a b => by omega) rfl
