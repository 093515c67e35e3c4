abbrev rm_FL_start : Room := { frames := 0, cells := 0, slots := 0, locals := 0 }
set_option maxHeartbeats 4000000 in
set_option maxRecDepth 100000 in
theorem c_FL_start (l : Launch) (D : va_G) (cA : ClassId) (h n1 l1 : Nat) (f : Int → Int)  : xV l y_FL_startAgain w_FL_startAgain rm_FL_start D vwCl [(cA, .int)] [.ref h] [cO h 2 [.ref n1, .ref l1], cR l1 cA 257 f] (fun w => ∃ (f' : Int → Int), w = [cO h 2 [.ref n1, .ref l1], cR l1 cA 257 f'] ∧ (ag f' mL0 257)) 0 0 := by
  refine xV.of (by decide) rfl (Nat.le_of_ble_eq_true rfl) ?_
  intro P0 E0 S0 M0 A0 B0 T0 C0 AA QQ XX hnm ret
  refine g_aload_n XX d_FL_startAgain_0 rfl 0 rfl ?_
  refine g_get (C := R_FL) (T := T_FL) (N := 2) XX (tmw win0_FL) 0 rfl rfl 1 (by decide) (tm kw_177) rfl rfl d_FL_startAgain_1 ?_
  refine g_iconst XX d_FL_startAgain_4 ?_
  refine g_bipush (v := -2) XX d_FL_startAgain_5 (by decide) ?_
  refine g_iast (ws' := [cO h 2 [.ref n1, .ref l1], cR l1 cA 257 (iup f 0 (-2))]) XX 1 0 rfl rfl ⟨by omega, by omega, by decide⟩ rfl d_FL_startAgain_7 ?_
  refine g_iconst XX d_FL_startAgain_8 ?_
  refine g_istore_n (lv' := [(1, .int (iI 0)), (0, .ref h)]) XX d_FL_startAgain_9 rfl (by decide) rfl ?_
  have L10 : ∀ (k_10 : Nat) (b0 : Int) (f2 : Int → Int), (0 ≤ b0 ∧ b0 ≤ 256) → (ag f2 mL0 (b0 + 1)) → (256 - b0).toNat = k_10 → xG P0 l E0 rm_FL_start S0 M0 A0 B0 T0 C0 QQ 2 D vwCl AA 0 0 [cO h 2 [.ref n1, .ref l1], cR l1 cA 257 f2] 10 [(1, .int (iI b0)), (0, .ref h)] [] := by
    refine x_ind (fun k_10 ih_10 b0 f2 h1 h2 hk_10 => ?_)
    refine g_iload_n XX d_FL_startAgain_10 rfl 0 rfl ?_
    refine g_sipush (v := 256) XX d_FL_startAgain_11 (by decide) ?_
    refine g_icmp_ge (tgt := 32) XX d_FL_startAgain_14 (by decide) ⟨by omega, by omega⟩ ⟨by omega, by omega⟩ (fun h14 => ?_) (fun h14 => ?_)
    · -- 14: yes
      exact ret _ _ _ [cO h 2 [.ref n1, .ref l1], cR l1 cA 257 f2] [0, 1] d_FL_startAgain_32 (by decide) rfl (⟨f2, rfl, ag_le h2 (by omega)⟩)
    · -- 14: no
      refine g_aload_n XX d_FL_startAgain_17 rfl 1 rfl ?_
      refine g_get (C := R_FL) (T := T_FL) (N := 2) XX (tmw win0_FL) 0 rfl rfl 1 (by decide) (tm kw_177) rfl rfl d_FL_startAgain_18 ?_
      refine g_iload_n XX d_FL_startAgain_21 rfl 0 rfl ?_
      refine g_iconst XX d_FL_startAgain_22 ?_
      refine g_iadd XX d_FL_startAgain_23 ?_
      refine g_iload_n XX d_FL_startAgain_24 rfl 0 rfl ?_
      refine g_iast (ws' := [cO h 2 [.ref n1, .ref l1], cR l1 cA 257 (iup f2 (b0 + 1) b0)]) XX 1 0 rfl rfl ⟨by omega, by omega, by decide⟩ rfl d_FL_startAgain_25 ?_
      refine g_iinc (lv' := [(1, .int (iI (b0 + 1))), (0, .ref h)]) XX d_FL_startAgain_26 0 rfl (by decide) rfl ?_
      refine g_goto (tgt := 10) XX d_FL_startAgain_29 (by decide) ?_
      exact ih_10 _ (by omega) (b0 + 1) (iup f2 (b0 + 1) b0) (by omega) (ag_s h2 (by simp only [mL0, if_neg (show ¬ b0 + 1 = 0 by omega)]; omega)) rfl
  exact L10 _ 0 (iup f 0 (-2)) (by omega) (ag_s (ag_0 (by omega)) (by decide)) rfl
abbrev rm_FL_move : Room := { frames := 1, cells := 0, slots := 0, locals := 26 }
set_option maxHeartbeats 4000000 in
set_option maxRecDepth 100000 in
theorem c_FL_move (l : Launch) (D : va_G) (cA : ClassId) (h n1 l1 : Nat) (f L : Int → Int) (w0 : Int) (hL : mok L) (hf : ag f L 257) (hw : sy w0) : xM l y_FL_moveToFront w_FL_moveToFront rm_FL_move D vwCl [(cA, .int)] [.ref h, .int (iI w0)] [cO h 2 [.ref n1, .ref l1], cR l1 cA 257 f] (fun r w => ∃ (f' : Int → Int), r = iI (mpos L w0) ∧ w = [cO h 2 [.ref n1, .ref l1], cR l1 cA 257 f'] ∧ (ag f' (mnew L w0) 257)) 0 0 := by
  refine xM.ofI (by decide) rfl (Nat.le_of_ble_eq_true rfl) ?_
  intro P0 E0 S0 M0 A0 B0 T0 C0 AA QQ XX hnm ret
  have sw := sy_rng hw
  refine g_iconst XX d_FL_moveToFront_0 ?_
  refine g_istore_n (lv' := [(2, .int (iI 0)), (0, .ref h), (1, .int (iI w0))]) XX d_FL_moveToFront_1 rfl (by decide) rfl ?_
  have L2 : ∀ (k_2 : Nat) (nu0 : Int), (0 ≤ nu0 ∧ nu0 ≤ 256) → (∀ j0, 0 ≤ j0 → j0 < nu0 → L j0 ≠ w0) → (256 - nu0).toNat = k_2 → xG P0 l E0 rm_FL_move S0 M0 A0 B0 T0 C0 QQ 3 D vwCl AA 0 0 [cO h 2 [.ref n1, .ref l1], cR l1 cA 257 f] 2 [(2, .int (iI nu0)), (0, .ref h), (1, .int (iI w0))] [] := by
    refine x_ind (fun k_2 ih_2 nu0 h1 h2 hk_2 => ?_)
    refine g_iload_n XX d_FL_moveToFront_2 rfl 0 rfl ?_
    refine g_sipush (v := 256) XX d_FL_moveToFront_3 (by decide) ?_
    refine g_icmp_ge (tgt := 25) XX d_FL_moveToFront_6 (by decide) ⟨by omega, by omega⟩ ⟨by omega, by omega⟩ (fun h6 => ?_) (fun h6 => ?_)
    · -- 6: yes
      have hp : mpos L w0 = nu0 := mpos_eq (by omega) (by omega) h2 (by omega)
      refine g_aload_n XX d_FL_moveToFront_25 rfl 1 rfl ?_
      refine g_get (C := R_FL) (T := T_FL) (N := 2) XX (tmw win0_FL) 0 rfl rfl 1 (by decide) (tm kw_177) rfl rfl d_FL_moveToFront_26 ?_
      refine g_iconst XX d_FL_moveToFront_29 ?_
      refine g_aload_n XX d_FL_moveToFront_30 rfl 1 rfl ?_
      refine g_get (C := R_FL) (T := T_FL) (N := 2) XX (tmw win0_FL) 0 rfl rfl 1 (by decide) (tm kw_177) rfl rfl d_FL_moveToFront_31 ?_
      refine g_iconst XX d_FL_moveToFront_34 ?_
      refine g_iload_n XX d_FL_moveToFront_35 rfl 0 rfl ?_
      refine g_copy (ws' := [cO h 2 [.ref n1, .ref l1], cR l1 cA 257 (icpy f f 0 1 nu0)]) XX (tm kw_186) (tm kw_162) (tm kw_163) (tm kw_164) 1 1 0 0 rfl rfl rfl rfl ⟨by omega, by omega, by omega, by omega, by omega, by decide, by decide⟩ (by decide) (Nat.le_of_ble_eq_true rfl) rfl d_FL_moveToFront_36 ?_
      refine g_aload_n XX d_FL_moveToFront_39 rfl 1 rfl ?_
      refine g_get (C := R_FL) (T := T_FL) (N := 2) XX (tmw win0_FL) 0 rfl rfl 1 (by decide) (tm kw_177) rfl rfl d_FL_moveToFront_40 ?_
      refine g_iconst XX d_FL_moveToFront_43 ?_
      refine g_iload_n XX d_FL_moveToFront_44 rfl 2 rfl ?_
      refine g_iast (ws' := [cO h 2 [.ref n1, .ref l1], cR l1 cA 257 (iup (icpy f f 0 1 nu0) 0 w0)]) XX 1 0 rfl rfl ⟨by omega, by omega, by decide⟩ rfl d_FL_moveToFront_45 ?_
      refine g_iload_n XX d_FL_moveToFront_46 rfl 0 rfl ?_
      exact ret _ _ _ _ [cO h 2 [.ref n1, .ref l1], cR l1 cA 257 (iup (icpy f f 0 1 nu0) 0 w0)] [0, 1] d_FL_moveToFront_47 (by decide) rfl (⟨iup (icpy f f 0 1 nu0) 0 w0, by rw [hp], rfl, mnew_ag hf hp (by omega)⟩)
    · -- 6: no
      refine g_aload_n XX d_FL_moveToFront_9 rfl 1 rfl ?_
      refine g_get (C := R_FL) (T := T_FL) (N := 2) XX (tmw win0_FL) 0 rfl rfl 1 (by decide) (tm kw_177) rfl rfl d_FL_moveToFront_10 ?_
      refine g_iload_n XX d_FL_moveToFront_13 rfl 0 rfl ?_
      refine g_iald XX 1 0 rfl rfl ⟨by omega, by omega, by decide⟩ d_FL_moveToFront_14 ?_
      refine g_iload_n XX d_FL_moveToFront_15 rfl 2 rfl ?_
      have e1 := hf nu0 (by omega) (by omega)
      have s1 := sy_rng (hL.1 nu0 (by omega) (by omega))
      refine g_icmp_eq (tgt := 25) XX d_FL_moveToFront_16 (by decide) ⟨by omega, by omega⟩ ⟨by omega, by omega⟩ (fun h16 => ?_) (fun h16 => ?_)
      · -- 16: yes
        have hp : mpos L w0 = nu0 := mpos_eq (by omega) (by omega) h2 (by omega)
        refine g_aload_n XX d_FL_moveToFront_25 rfl 1 rfl ?_
        refine g_get (C := R_FL) (T := T_FL) (N := 2) XX (tmw win0_FL) 0 rfl rfl 1 (by decide) (tm kw_177) rfl rfl d_FL_moveToFront_26 ?_
        refine g_iconst XX d_FL_moveToFront_29 ?_
        refine g_aload_n XX d_FL_moveToFront_30 rfl 1 rfl ?_
        refine g_get (C := R_FL) (T := T_FL) (N := 2) XX (tmw win0_FL) 0 rfl rfl 1 (by decide) (tm kw_177) rfl rfl d_FL_moveToFront_31 ?_
        refine g_iconst XX d_FL_moveToFront_34 ?_
        refine g_iload_n XX d_FL_moveToFront_35 rfl 0 rfl ?_
        refine g_copy (ws' := [cO h 2 [.ref n1, .ref l1], cR l1 cA 257 (icpy f f 0 1 nu0)]) XX (tm kw_186) (tm kw_162) (tm kw_163) (tm kw_164) 1 1 0 0 rfl rfl rfl rfl ⟨by omega, by omega, by omega, by omega, by omega, by decide, by decide⟩ (by decide) (Nat.le_of_ble_eq_true rfl) rfl d_FL_moveToFront_36 ?_
        refine g_aload_n XX d_FL_moveToFront_39 rfl 1 rfl ?_
        refine g_get (C := R_FL) (T := T_FL) (N := 2) XX (tmw win0_FL) 0 rfl rfl 1 (by decide) (tm kw_177) rfl rfl d_FL_moveToFront_40 ?_
        refine g_iconst XX d_FL_moveToFront_43 ?_
        refine g_iload_n XX d_FL_moveToFront_44 rfl 2 rfl ?_
        refine g_iast (ws' := [cO h 2 [.ref n1, .ref l1], cR l1 cA 257 (iup (icpy f f 0 1 nu0) 0 w0)]) XX 1 0 rfl rfl ⟨by omega, by omega, by decide⟩ rfl d_FL_moveToFront_45 ?_
        refine g_iload_n XX d_FL_moveToFront_46 rfl 0 rfl ?_
        exact ret _ _ _ _ [cO h 2 [.ref n1, .ref l1], cR l1 cA 257 (iup (icpy f f 0 1 nu0) 0 w0)] [0, 1] d_FL_moveToFront_47 (by decide) rfl (⟨iup (icpy f f 0 1 nu0) 0 w0, by rw [hp], rfl, mnew_ag hf hp (by omega)⟩)
      · -- 16: no
        refine g_iinc (lv' := [(2, .int (iI (nu0 + 1))), (0, .ref h), (1, .int (iI w0))]) XX d_FL_moveToFront_19 0 rfl (by decide) rfl ?_
        refine g_goto (tgt := 2) XX d_FL_moveToFront_22 (by decide) ?_
        exact ih_2 _ (by omega) (nu0 + 1) (by omega) (all_s h2 (by show L nu0 ≠ w0; omega)) rfl
  exact L2 _ 0 (by omega) (fun j0 a b => by omega) rfl
abbrev rm_FL_number : Room := { frames := 2, cells := 0, slots := 0, locals := 48 }
set_option maxHeartbeats 4000000 in
set_option maxRecDepth 100000 in
theorem c_FL_number (l : Launch) (D : va_G) (cA : ClassId) (h n1 l1 k : Nat) (nu f col C : Int → Int) (N : Int) (hN : 0 ≤ N ∧ N ≤ 96) (hc : ag col C (N + 1)) (hs : ∀ j, 0 ≤ j → j < N + 1 → sy (C j)) : xV l y_FL_numberColumn w_FL_numberColumn rm_FL_number D vwCl [(cA, .int)] [.ref h, .ref k, .int (iI N)] [cO h 2 [.ref n1, .ref l1], cR n1 cA 97 nu, cR l1 cA 257 f, cR k cA 97 col] (fun w => ∃ (nu' : Int → Int), ∃ (f' : Int → Int), w = [cO h 2 [.ref n1, .ref l1], cR n1 cA 97 nu', cR l1 cA 257 f', cR k cA 97 col] ∧ (ag nu' (mN C) (N + 1))) 0 0 := by
  refine xV.of (by decide) rfl (Nat.le_of_ble_eq_true rfl) ?_
  intro P0 E0 S0 M0 A0 B0 T0 C0 AA QQ XX hnm ret
  refine g_aload_n XX d_FL_numberColumn_0 rfl 0 rfl ?_
  refine g_callv (As := []) (st := []) (wr := [cR n1 cA 97 nu, cR k cA 97 col]) XX (c_FL_start l D cA h n1 l1 f ) (x_cw 0 XX.2.2.2.2.1 (gi kw_178) rfl rfl (tm kw_21) (tm kw_179) (tm kw_180) (tm kw_181) ⟨by decide +kernel, by decide +kernel, by decide +kernel⟩ ⟨by decide, by decide⟩) [0, 2] [1, 3] rfl rfl (by decide) (by decide) (by decide) 0 2 rfl rfl rfl rfl (Nat.le_of_ble_eq_true rfl) d_FL_numberColumn_1 ⟨by decide, by decide⟩ (fun w_ hq => ?_)
  obtain ⟨f1, rfl, u1_0⟩ := hq
  show xG P0 l E0 rm_FL_number S0 M0 A0 B0 T0 C0 QQ 4 D vwCl AA 0 0 [cR n1 cA 97 nu, cR k cA 97 col, cO h 2 [.ref n1, .ref l1], cR l1 cA 257 f1] 4 [(0, .ref h), (1, .ref k), (2, .int (iI N))] []
  refine g_iconst XX d_FL_numberColumn_4 ?_
  refine g_istore_n (lv' := [(3, .int (iI 0)), (0, .ref h), (1, .ref k), (2, .int (iI N))]) XX d_FL_numberColumn_5 rfl (by decide) rfl ?_
  have L6 : ∀ (k_6 : Nat) (r0 : Int) (nu2 : Int → Int) (f2 : Int → Int), (0 ≤ r0 ∧ r0 ≤ N + 1) → (ag nu2 (mN C) r0) → (ag f2 (mS C r0) 257) → (N + 1 - r0).toNat = k_6 → xG P0 l E0 rm_FL_number S0 M0 A0 B0 T0 C0 QQ 4 D vwCl AA 0 0 [cR n1 cA 97 nu2, cR k cA 97 col, cO h 2 [.ref n1, .ref l1], cR l1 cA 257 f2] 6 [(3, .int (iI r0)), (0, .ref h), (1, .ref k), (2, .int (iI N))] [] := by
    refine x_ind (fun k_6 ih_6 r0 nu2 f2 h1 h2 h3 hk_6 => ?_)
    refine g_iload_n XX d_FL_numberColumn_6 rfl 0 rfl ?_
    refine g_iload_n XX d_FL_numberColumn_7 rfl 3 rfl ?_
    refine g_icmp_gt (tgt := 30) XX d_FL_numberColumn_8 (by decide) ⟨by omega, by omega⟩ ⟨by omega, by omega⟩ (fun h8 => ?_) (fun h8 => ?_)
    · -- 8: yes
      exact ret _ _ _ [cO h 2 [.ref n1, .ref l1], cR n1 cA 97 nu2, cR l1 cA 257 f2, cR k cA 97 col] [2, 0, 3, 1] d_FL_numberColumn_30 (by decide) rfl (⟨nu2, f2, rfl, ag_le h2 (by omega)⟩)
    · -- 8: no
      refine g_aload_n XX d_FL_numberColumn_11 rfl 1 rfl ?_
      refine g_get (C := R_FL) (T := T_FL) (N := 2) XX (tmw win0_FL) 2 rfl rfl 0 (by decide) (tm kw_176) rfl rfl d_FL_numberColumn_12 ?_
      refine g_iload_n XX d_FL_numberColumn_15 rfl 0 rfl ?_
      refine g_aload_n XX d_FL_numberColumn_16 rfl 1 rfl ?_
      refine g_aload_n XX d_FL_numberColumn_17 rfl 2 rfl ?_
      refine g_iload_n XX d_FL_numberColumn_18 rfl 0 rfl ?_
      refine g_iald XX 1 0 rfl rfl ⟨by omega, by omega, by decide⟩ d_FL_numberColumn_19 ?_
      refine g_calli (As := [.int (iI (col r0))]) (st := [.int (iI r0), .ref n1]) (wr := [cR n1 cA 97 nu2, cR k cA 97 col]) XX (c_FL_move l D cA h n1 l1 f2 (mS C r0) (col r0) (mok_S hs r0 (by omega) (by omega)) (h3) (by rw [hc r0 (by omega) (by omega)]; exact hs r0 (by omega) (by omega))) (x_cw 1 XX.2.2.2.2.1 (gi kw_182) rfl rfl (tm kw_21) (tm kw_183) (tm kw_184) (tm kw_185) ⟨by decide +kernel, by decide +kernel, by decide +kernel⟩ ⟨by decide, by decide⟩) [2, 3] [0, 1] rfl rfl (by decide) (by decide) (by decide) 2 2 rfl rfl rfl rfl (Nat.le_of_ble_eq_true rfl) d_FL_numberColumn_20 ⟨by decide, by decide⟩ (fun r_ w_ hq => ?_)
      obtain ⟨f3, rfl, rfl, u20_0⟩ := hq
      show xG P0 l E0 rm_FL_number S0 M0 A0 B0 T0 C0 QQ 4 D vwCl AA 0 0 [cR n1 cA 97 nu2, cR k cA 97 col, cO h 2 [.ref n1, .ref l1], cR l1 cA 257 f3] 23 [(3, .int (iI r0)), (0, .ref h), (1, .ref k), (2, .int (iI N))] [.int (iI (mpos (mS C r0) (col r0))), .int (iI r0), .ref n1]
      refine g_iast (ws' := [cR n1 cA 97 (iup nu2 r0 (mpos (mS C r0) (col r0))), cR k cA 97 col, cO h 2 [.ref n1, .ref l1], cR l1 cA 257 f3]) XX 0 0 rfl rfl ⟨by omega, by omega, by decide⟩ rfl d_FL_numberColumn_23 ?_
      refine g_iinc (lv' := [(3, .int (iI (r0 + 1))), (0, .ref h), (1, .ref k), (2, .int (iI N))]) XX d_FL_numberColumn_24 0 rfl (by decide) rfl ?_
      refine g_goto (tgt := 6) XX d_FL_numberColumn_27 (by decide) ?_
      exact ih_6 _ (by omega) (r0 + 1) (iup nu2 r0 (mpos (mS C r0) (col r0))) f3 (by omega) (ag_s h2 (by rw [hc r0 (by omega) (by omega)]; rfl)) (by rw [mS_s (by omega), ← hc r0 (by omega) (by omega)]; exact u20_0) rfl
  exact L6 _ 0 nu f1 (by omega) (ag_0 (by omega)) (u1_0) rfl
