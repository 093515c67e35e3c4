abbrev rm_CR_take : Room := { frames := 0, cells := 0, slots := 0, locals := 0 }
set_option maxHeartbeats 4000000 in
set_option maxRecDepth 100000 in
theorem c_CR_take (l : Launch) (D : va_G) (cA : ClassId) (h a k b : Nat) (co f T : Int → Int) (lr t i : Int) (ht : 0 ≤ i ∧ i ≤ t ∧ t ≤ 96) (hf : ag f T t) : xV l y_CR_take w_CR_take rm_CR_take D vwCl [(cA, .int)] [.ref h, .ref k, .int (iI i)] [cO h 1 [.ref a, .int (iI lr)], cR a cA 97 co, cO k 0 [.ref b, .int (iI t)], cR b cA 96 f] (fun w => ∃ (co' : Int → Int), w = [cO h 1 [.ref a, .int (iI t)], cR a cA 97 co', cO k 0 [.ref b, .int (iI t)], cR b cA 96 f] ∧ (ag co' (gv T i) (t + 1))) 0 0 := by
  refine xV.of (by decide) rfl (Nat.le_of_ble_eq_true rfl) ?_
  intro P0 E0 S0 M0 A0 B0 T0 C0 AA QQ XX hnm ret
  refine g_iconst XX d_CR_take_0 ?_
  refine g_istore_n (lv' := [(3, .int (iI 0)), (0, .ref h), (1, .ref k), (2, .int (iI i))]) XX d_CR_take_1 rfl (by decide) rfl ?_
  have L2 : ∀ (k_2 : Nat) (p0 : Int) (co2 : Int → Int), (0 ≤ p0 ∧ p0 ≤ t) → (∀ j, 0 ≤ j → j < p0 → co2 (if j < i then j else j + 1) = T j) → (t - p0).toNat = k_2 → xG P0 l E0 rm_CR_take S0 M0 A0 B0 T0 C0 QQ 4 D vwCl AA 0 0 [cO h 1 [.ref a, .int (iI lr)], cR a cA 97 co2, cO k 0 [.ref b, .int (iI t)], cR b cA 96 f] 2 [(3, .int (iI p0)), (0, .ref h), (1, .ref k), (2, .int (iI i))] [] := by
    refine x_ind (fun k_2 ih_2 p0 co2 h1 h2 hk_2 => ?_)
    refine g_iload_n XX d_CR_take_2 rfl 0 rfl ?_
    refine g_aload_n XX d_CR_take_3 rfl 2 rfl ?_
    refine g_get (C := R_BR) (T := T_BR) (N := 2) XX (tmw win0_BR) 2 rfl rfl 1 (by decide) (tm kw_169) rfl rfl d_CR_take_4 ?_
    refine g_icmp_ge (tgt := 39) XX d_CR_take_7 (by decide) ⟨by omega, by omega⟩ ⟨by omega, by omega⟩ (fun h7 => ?_) (fun h7 => ?_)
    · -- 7: yes
      refine g_aload_n XX d_CR_take_39 rfl 1 rfl ?_
      refine g_get (C := R_CR) (T := T_CR) (N := 2) XX (tmw win0_CR) 0 rfl rfl 0 (by decide) (tm kw_167) rfl rfl d_CR_take_40 ?_
      refine g_iload_n XX d_CR_take_43 rfl 3 rfl ?_
      refine g_bipush (v := -2) XX d_CR_take_44 (by decide) ?_
      refine g_iast (ws' := [cO h 1 [.ref a, .int (iI lr)], cR a cA 97 (iup co2 i (-2)), cO k 0 [.ref b, .int (iI t)], cR b cA 96 f]) XX 1 0 rfl rfl ⟨by omega, by omega, by decide⟩ rfl d_CR_take_46 ?_
      refine g_aload_n XX d_CR_take_47 rfl 1 rfl ?_
      refine g_aload_n XX d_CR_take_48 rfl 2 rfl ?_
      refine g_get (C := R_BR) (T := T_BR) (N := 2) XX (tmw win0_BR) 2 rfl rfl 1 (by decide) (tm kw_169) rfl rfl d_CR_take_49 ?_
      refine g_put (C := R_CR) (T := T_CR) (N := 2) (ty := (.int)) (ws' := [cO h 1 [.ref a, .int (iI t)], cR a cA 97 (iup co2 i (-2)), cO k 0 [.ref b, .int (iI t)], cR b cA 96 f]) XX (tmw win0_CR) ty_CR ok_CR nm_CR 0 rfl rfl 1 (by decide) (tm kw_168) rfl rfl (by decide +kernel) rfl rfl (Nat.le_of_ble_eq_true rfl) rfl d_CR_take_52 ?_
      exact ret _ _ _ [cO h 1 [.ref a, .int (iI t)], cR a cA 97 (iup co2 i (-2)), cO k 0 [.ref b, .int (iI t)], cR b cA 96 f] [0, 1, 2, 3] d_CR_take_55 (by decide) rfl (⟨iup co2 i (-2), rfl, gv_end (by omega) (by omega) h2⟩)
    · -- 7: no
      refine g_aload_n XX d_CR_take_10 rfl 1 rfl ?_
      refine g_get (C := R_CR) (T := T_CR) (N := 2) XX (tmw win0_CR) 0 rfl rfl 0 (by decide) (tm kw_167) rfl rfl d_CR_take_11 ?_
      refine g_iload_n XX d_CR_take_14 rfl 0 rfl ?_
      refine g_iload_n XX d_CR_take_15 rfl 3 rfl ?_
      refine g_icmp_ge (tgt := 23) XX d_CR_take_16 (by decide) ⟨by omega, by omega⟩ ⟨by omega, by omega⟩ (fun h16 => ?_) (fun h16 => ?_)
      · -- 16: yes
        refine g_iload_n XX d_CR_take_23 rfl 0 rfl ?_
        refine g_iconst XX d_CR_take_24 ?_
        refine g_iadd XX d_CR_take_25 ?_
        refine g_aload_n XX d_CR_take_26 rfl 2 rfl ?_
        refine g_get (C := R_BR) (T := T_BR) (N := 2) XX (tmw win0_BR) 2 rfl rfl 0 (by decide) (tm kw_170) rfl rfl d_CR_take_27 ?_
        refine g_iload_n XX d_CR_take_30 rfl 0 rfl ?_
        refine g_iald XX 3 0 rfl rfl ⟨by omega, by omega, by decide⟩ d_CR_take_31 ?_
        refine g_iast (ws' := [cO h 1 [.ref a, .int (iI lr)], cR a cA 97 (iup co2 (p0 + 1) (f p0)), cO k 0 [.ref b, .int (iI t)], cR b cA 96 f]) XX 1 0 rfl rfl ⟨by omega, by omega, by decide⟩ rfl d_CR_take_32 ?_
        refine g_iinc (lv' := [(3, .int (iI (p0 + 1))), (0, .ref h), (1, .ref k), (2, .int (iI i))]) XX d_CR_take_33 0 rfl (by decide) rfl ?_
        refine g_goto (tgt := 2) XX d_CR_take_36 (by decide) ?_
        exact ih_2 _ (by omega) (p0 + 1) (iup co2 (p0 + 1) (f p0)) (by omega) (by first | exact gv_put h2 (by rw [if_neg (by omega)]) (hf p0 (by omega) (by omega)) | exact gv_put h2 (by rw [if_pos (by omega)]) (hf p0 (by omega) (by omega))) rfl
      · -- 16: no
        refine g_iload_n XX d_CR_take_19 rfl 0 rfl ?_
        refine g_goto (tgt := 26) XX d_CR_take_20 (by decide) ?_
        refine g_aload_n XX d_CR_take_26 rfl 2 rfl ?_
        refine g_get (C := R_BR) (T := T_BR) (N := 2) XX (tmw win0_BR) 2 rfl rfl 0 (by decide) (tm kw_170) rfl rfl d_CR_take_27 ?_
        refine g_iload_n XX d_CR_take_30 rfl 0 rfl ?_
        refine g_iald XX 3 0 rfl rfl ⟨by omega, by omega, by decide⟩ d_CR_take_31 ?_
        refine g_iast (ws' := [cO h 1 [.ref a, .int (iI lr)], cR a cA 97 (iup co2 p0 (f p0)), cO k 0 [.ref b, .int (iI t)], cR b cA 96 f]) XX 1 0 rfl rfl ⟨by omega, by omega, by decide⟩ rfl d_CR_take_32 ?_
        refine g_iinc (lv' := [(3, .int (iI (p0 + 1))), (0, .ref h), (1, .ref k), (2, .int (iI i))]) XX d_CR_take_33 0 rfl (by decide) rfl ?_
        refine g_goto (tgt := 2) XX d_CR_take_36 (by decide) ?_
        exact ih_2 _ (by omega) (p0 + 1) (iup co2 p0 (f p0)) (by omega) (by first | exact gv_put h2 (by rw [if_neg (by omega)]) (hf p0 (by omega) (by omega)) | exact gv_put h2 (by rw [if_pos (by omega)]) (hf p0 (by omega) (by omega))) rfl
  exact L2 _ 0 co (by omega) (fun j a b => by omega) rfl
abbrev rm_CR_longer : Room := { frames := 0, cells := 0, slots := 0, locals := 0 }
set_option maxHeartbeats 4000000 in
set_option maxRecDepth 100000 in
theorem c_CR_longer (l : Launch) (D : va_G) (cA : ClassId) (h a : Nat) (co C : Int → Int) (N r0 : Int) (hr : 0 ≤ r0 ∧ r0 ≤ N ∧ N ≤ 96) (hc : ag co C (N + 1)) (hv : ∀ j, 0 ≤ j → j ≤ N → -2 ≤ C j ∧ C j ≤ 255) : xM l y_CR_rankOfLonger w_CR_rankOfLonger rm_CR_longer D vwCl [(cA, .int)] [.ref h, .int (iI r0)] [cO h 1 [.ref a, .int (iI N)], cR a cA 97 co] (fun r w => r = iI (lf C N r0) ∧ w = [cO h 1 [.ref a, .int (iI N)], cR a cA 97 co]) 0 0 := by
  refine xM.ofI (by decide) rfl (Nat.le_of_ble_eq_true rfl) ?_
  intro P0 E0 S0 M0 A0 B0 T0 C0 AA QQ XX hnm ret
  refine g_iconst XX d_CR_rankOfLonger_0 ?_
  refine g_istore_n (lv' := [(2, .int (iI 0)), (0, .ref h), (1, .int (iI r0))]) XX d_CR_rankOfLonger_1 rfl (by decide) rfl ?_
  refine g_iconst XX d_CR_rankOfLonger_2 ?_
  refine g_istore_n (lv' := [(3, .int (iI 0)), (2, .int (iI 0)), (0, .ref h), (1, .int (iI r0))]) XX d_CR_rankOfLonger_3 rfl (by decide) rfl ?_
  have L4 : ∀ (k_4 : Nat) (c0 : Int) (o0 : Int), (0 ≤ o0 ∧ o0 ≤ N + 1) → (c0 = cnt (lfb C r0) o0) → (N + 1 - o0).toNat = k_4 → xG P0 l E0 rm_CR_longer S0 M0 A0 B0 T0 C0 QQ 4 D vwCl AA 0 0 [cO h 1 [.ref a, .int (iI N)], cR a cA 97 co] 4 [(3, .int (iI o0)), (2, .int (iI c0)), (0, .ref h), (1, .int (iI r0))] [] := by
    refine x_ind (fun k_4 ih_4 c0 o0 h1 h2 hk_4 => ?_)
    refine g_iload_n XX d_CR_rankOfLonger_4 rfl 0 rfl ?_
    refine g_aload_n XX d_CR_rankOfLonger_5 rfl 2 rfl ?_
    refine g_get (C := R_CR) (T := T_CR) (N := 2) XX (tmw win0_CR) 0 rfl rfl 1 (by decide) (tm kw_168) rfl rfl d_CR_rankOfLonger_6 ?_
    refine g_icmp_gt (tgt := 56) XX d_CR_rankOfLonger_9 (by decide) ⟨by omega, by omega⟩ ⟨by omega, by omega⟩ (fun h9 => ?_) (fun h9 => ?_)
    · -- 9: yes
      refine g_iload_n XX d_CR_rankOfLonger_56 rfl 1 rfl ?_
      exact ret _ _ _ _ [cO h 1 [.ref a, .int (iI N)], cR a cA 97 co] [0, 1] d_CR_rankOfLonger_57 (by decide) rfl (⟨by rw [h2, show o0 = N + 1 by omega]; rfl, rfl⟩)
    · -- 9: no
      refine g_aload_n XX d_CR_rankOfLonger_12 rfl 2 rfl ?_
      refine g_get (C := R_CR) (T := T_CR) (N := 2) XX (tmw win0_CR) 0 rfl rfl 0 (by decide) (tm kw_167) rfl rfl d_CR_rankOfLonger_13 ?_
      refine g_iload_n XX d_CR_rankOfLonger_16 rfl 0 rfl ?_
      refine g_iald XX 1 0 rfl rfl ⟨by omega, by omega, by decide⟩ d_CR_rankOfLonger_17 ?_
      refine g_aload_n XX d_CR_rankOfLonger_18 rfl 2 rfl ?_
      refine g_get (C := R_CR) (T := T_CR) (N := 2) XX (tmw win0_CR) 0 rfl rfl 0 (by decide) (tm kw_167) rfl rfl d_CR_rankOfLonger_19 ?_
      refine g_iload_n XX d_CR_rankOfLonger_22 rfl 3 rfl ?_
      refine g_iald XX 1 0 rfl rfl ⟨by omega, by omega, by decide⟩ d_CR_rankOfLonger_23 ?_
      have e1 := hc o0 (by omega) (by omega)
      have e2 := hc r0 (by omega) (by omega)
      have v1 := hv o0 (by omega) (by omega)
      have v2 := hv r0 (by omega) (by omega)
      refine g_icmp_lt (tgt := 47) XX d_CR_rankOfLonger_24 (by decide) ⟨by omega, by omega⟩ ⟨by omega, by omega⟩ (fun h24 => ?_) (fun h24 => ?_)
      · -- 24: yes
        refine g_iinc (lv' := [(2, .int (iI (c0 + 1))), (3, .int (iI o0)), (0, .ref h), (1, .int (iI r0))]) XX d_CR_rankOfLonger_47 1 rfl (by decide) rfl ?_
        refine g_iinc (lv' := [(3, .int (iI (o0 + 1))), (2, .int (iI (c0 + 1))), (0, .ref h), (1, .int (iI r0))]) XX d_CR_rankOfLonger_50 1 rfl (by decide) rfl ?_
        refine g_goto (tgt := 4) XX d_CR_rankOfLonger_53 (by decide) ?_
        exact ih_4 _ (by omega) (c0 + 1) (o0 + 1) (by omega) (by first | (rw [h2, cnt_y (by omega) (by simp only [lfb, decide_eq_true_eq]; omega)]; done) | (rw [cnt_n (by omega) (by simp only [lfb, decide_eq_false_iff_not]; omega)]; exact h2)) rfl
      · -- 24: no
        refine g_aload_n XX d_CR_rankOfLonger_27 rfl 2 rfl ?_
        refine g_get (C := R_CR) (T := T_CR) (N := 2) XX (tmw win0_CR) 0 rfl rfl 0 (by decide) (tm kw_167) rfl rfl d_CR_rankOfLonger_28 ?_
        refine g_iload_n XX d_CR_rankOfLonger_31 rfl 0 rfl ?_
        refine g_iald XX 1 0 rfl rfl ⟨by omega, by omega, by decide⟩ d_CR_rankOfLonger_32 ?_
        refine g_aload_n XX d_CR_rankOfLonger_33 rfl 2 rfl ?_
        refine g_get (C := R_CR) (T := T_CR) (N := 2) XX (tmw win0_CR) 0 rfl rfl 0 (by decide) (tm kw_167) rfl rfl d_CR_rankOfLonger_34 ?_
        refine g_iload_n XX d_CR_rankOfLonger_37 rfl 3 rfl ?_
        refine g_iald XX 1 0 rfl rfl ⟨by omega, by omega, by decide⟩ d_CR_rankOfLonger_38 ?_
        refine g_icmp_ne (tgt := 50) XX d_CR_rankOfLonger_39 (by decide) ⟨by omega, by omega⟩ ⟨by omega, by omega⟩ (fun h39 => ?_) (fun h39 => ?_)
        · -- 39: yes
          refine g_iinc (lv' := [(3, .int (iI (o0 + 1))), (2, .int (iI c0)), (0, .ref h), (1, .int (iI r0))]) XX d_CR_rankOfLonger_50 0 rfl (by decide) rfl ?_
          refine g_goto (tgt := 4) XX d_CR_rankOfLonger_53 (by decide) ?_
          exact ih_4 _ (by omega) c0 (o0 + 1) (by omega) (by first | (rw [h2, cnt_y (by omega) (by simp only [lfb, decide_eq_true_eq]; omega)]; done) | (rw [cnt_n (by omega) (by simp only [lfb, decide_eq_false_iff_not]; omega)]; exact h2)) rfl
        · -- 39: no
          refine g_iload_n XX d_CR_rankOfLonger_42 rfl 0 rfl ?_
          refine g_iload_n XX d_CR_rankOfLonger_43 rfl 3 rfl ?_
          refine g_icmp_ge (tgt := 50) XX d_CR_rankOfLonger_44 (by decide) ⟨by omega, by omega⟩ ⟨by omega, by omega⟩ (fun h44 => ?_) (fun h44 => ?_)
          · -- 44: yes
            refine g_iinc (lv' := [(3, .int (iI (o0 + 1))), (2, .int (iI c0)), (0, .ref h), (1, .int (iI r0))]) XX d_CR_rankOfLonger_50 0 rfl (by decide) rfl ?_
            refine g_goto (tgt := 4) XX d_CR_rankOfLonger_53 (by decide) ?_
            exact ih_4 _ (by omega) c0 (o0 + 1) (by omega) (by first | (rw [h2, cnt_y (by omega) (by simp only [lfb, decide_eq_true_eq]; omega)]; done) | (rw [cnt_n (by omega) (by simp only [lfb, decide_eq_false_iff_not]; omega)]; exact h2)) rfl
          · -- 44: no
            refine g_iinc (lv' := [(2, .int (iI (c0 + 1))), (3, .int (iI o0)), (0, .ref h), (1, .int (iI r0))]) XX d_CR_rankOfLonger_47 1 rfl (by decide) rfl ?_
            refine g_iinc (lv' := [(3, .int (iI (o0 + 1))), (2, .int (iI (c0 + 1))), (0, .ref h), (1, .int (iI r0))]) XX d_CR_rankOfLonger_50 1 rfl (by decide) rfl ?_
            refine g_goto (tgt := 4) XX d_CR_rankOfLonger_53 (by decide) ?_
            exact ih_4 _ (by omega) (c0 + 1) (o0 + 1) (by omega) (by first | (rw [h2, cnt_y (by omega) (by simp only [lfb, decide_eq_true_eq]; omega)]; done) | (rw [cnt_n (by omega) (by simp only [lfb, decide_eq_false_iff_not]; omega)]; exact h2)) rfl
  exact L4 _ 0 0 (by omega) ((cnt_0 (by omega)).symm) rfl
abbrev rm_CR_write : Room := { frames := 1, cells := 0, slots := 0, locals := 23 }
set_option maxHeartbeats 4000000 in
set_option maxRecDepth 100000 in
theorem c_CR_write (l : Launch) (D : va_G) (cA : ClassId) (h a k b : Nat) (co f C : Int → Int) (N t : Int) (hN : 0 ≤ N ∧ N ≤ 96) (hc : ag co C (N + 1)) (hv : ∀ j, 0 ≤ j → j ≤ N → -2 ≤ C j ∧ C j ≤ 255) : xM l y_CR_writeText w_CR_writeText rm_CR_write D vwCl [(cA, .int)] [.ref h, .ref k] [cO h 1 [.ref a, .int (iI N)], cR a cA 97 co, cO k 0 [.ref b, .int (iI t)], cR b cA 96 f] (fun r w => ∃ (z : Int), ∃ (t' : Int), ∃ (f' : Int → Int), r = iI z ∧ w = [cO h 1 [.ref a, .int (iI N)], cR a cA 97 co, cO k 0 [.ref b, .int (iI t')], cR b cA 96 f'] ∧ ((z = 1 ∧ wgood C N ∧ ag f' (xt C N) N ∧ t' = N) ∨ (z = 0 ∧ ¬ wgood C N))) 0 0 := by
  refine xM.ofZ (by decide) rfl (Nat.le_of_ble_eq_true rfl) ?_
  intro P0 E0 S0 M0 A0 B0 T0 C0 AA QQ XX hnm ret
  refine g_iconst XX d_CR_writeText_0 ?_
  refine g_istore_n (lv' := [(2, .int (iI 0)), (0, .ref h), (1, .ref k)]) XX d_CR_writeText_1 rfl (by decide) rfl ?_
  refine g_aload_n XX d_CR_writeText_2 rfl 1 rfl ?_
  refine g_get (C := R_CR) (T := T_CR) (N := 2) XX (tmw win0_CR) 0 rfl rfl 1 (by decide) (tm kw_168) rfl rfl d_CR_writeText_3 ?_
  refine g_iconst XX d_CR_writeText_6 ?_
  refine g_isub XX d_CR_writeText_7 ?_
  refine g_istore_n (lv' := [(3, .int (iI (N - 1))), (2, .int (iI 0)), (0, .ref h), (1, .ref k)]) XX d_CR_writeText_8 rfl (by decide) rfl ?_
  have L9 : ∀ (k_9 : Nat) (r1 : Int) (p0 : Int) (f2 : Int → Int), (-1 ≤ p0 ∧ p0 ≤ N - 1) → (r1 = wk C N (N - 1 - p0)) → (∀ j, p0 < j → j < N → f2 j = xt C N j) → (∀ i, 0 ≤ i → i < N - 1 - p0 → C (wk C N i) ≠ -2) → (p0 + 1).toNat = k_9 → xG P0 l E0 rm_CR_write S0 M0 A0 B0 T0 C0 QQ 4 D vwCl AA 0 0 [cO h 1 [.ref a, .int (iI N)], cR a cA 97 co, cO k 0 [.ref b, .int (iI t)], cR b cA 96 f2] 9 [(3, .int (iI p0)), (2, .int (iI r1)), (0, .ref h), (1, .ref k)] [] := by
    refine x_ind (fun k_9 ih_9 r1 p0 f2 h1 h2 h3 h4 hk_9 => ?_)
    refine g_iload_n XX d_CR_writeText_9 rfl 0 rfl ?_
    refine g_if_lt (tgt := 50) XX d_CR_writeText_10 (by decide) ⟨by omega, by omega⟩ (fun h10 => ?_) (fun h10 => ?_)
    · -- 10: yes
      refine g_aload_n XX d_CR_writeText_50 rfl 3 rfl ?_
      refine g_aload_n XX d_CR_writeText_51 rfl 2 rfl ?_
      refine g_get (C := R_CR) (T := T_CR) (N := 2) XX (tmw win0_CR) 0 rfl rfl 1 (by decide) (tm kw_168) rfl rfl d_CR_writeText_52 ?_
      refine g_put (C := R_BR) (T := T_BR) (N := 2) (ty := (.int)) (ws' := [cO h 1 [.ref a, .int (iI N)], cR a cA 97 co, cO k 0 [.ref b, .int (iI N)], cR b cA 96 f2]) XX (tmw win0_BR) ty_BR ok_BR nm_BR 2 rfl rfl 1 (by decide) (tm kw_169) rfl rfl (by decide +kernel) rfl rfl (Nat.le_of_ble_eq_true rfl) rfl d_CR_writeText_55 ?_
      refine g_iconst XX d_CR_writeText_58 ?_
      exact ret _ _ _ _ [cO h 1 [.ref a, .int (iI N)], cR a cA 97 co, cO k 0 [.ref b, .int (iI N)], cR b cA 96 f2] [0, 1, 2, 3] (by first | exact Or.inl rfl | exact Or.inr rfl) d_CR_writeText_59 (by decide) rfl (⟨1, N, f2, rfl, rfl, Or.inl ⟨rfl, fun i a b => h4 i a (by omega), fun j a b => h3 j (by omega) b, rfl⟩⟩)
    · -- 10: no
      have rr := wk_rng (col := C) (N := N) (by omega) (N - 1 - p0) (by omega)
      have e1 := hc r1 (by omega) (by omega)
      have v1 := hv r1 (by omega) (by omega)
      refine g_aload_n XX d_CR_writeText_13 rfl 2 rfl ?_
      refine g_get (C := R_CR) (T := T_CR) (N := 2) XX (tmw win0_CR) 0 rfl rfl 0 (by decide) (tm kw_167) rfl rfl d_CR_writeText_14 ?_
      refine g_iload_n XX d_CR_writeText_17 rfl 1 rfl ?_
      refine g_iald XX 1 0 rfl rfl ⟨by omega, by omega, by decide⟩ d_CR_writeText_18 ?_
      refine g_bipush (v := -2) XX d_CR_writeText_19 (by decide) ?_
      refine g_icmp_ne (tgt := 26) XX d_CR_writeText_21 (by decide) ⟨by omega, by omega⟩ ⟨by omega, by omega⟩ (fun h21 => ?_) (fun h21 => ?_)
      · -- 21: yes
        refine g_aload_n XX d_CR_writeText_26 rfl 3 rfl ?_
        refine g_get (C := R_BR) (T := T_BR) (N := 2) XX (tmw win0_BR) 2 rfl rfl 0 (by decide) (tm kw_170) rfl rfl d_CR_writeText_27 ?_
        refine g_iload_n XX d_CR_writeText_30 rfl 0 rfl ?_
        refine g_aload_n XX d_CR_writeText_31 rfl 2 rfl ?_
        refine g_get (C := R_CR) (T := T_CR) (N := 2) XX (tmw win0_CR) 0 rfl rfl 0 (by decide) (tm kw_167) rfl rfl d_CR_writeText_32 ?_
        refine g_iload_n XX d_CR_writeText_35 rfl 1 rfl ?_
        refine g_iald XX 1 0 rfl rfl ⟨by omega, by omega, by decide⟩ d_CR_writeText_36 ?_
        refine g_iast (ws' := [cO h 1 [.ref a, .int (iI N)], cR a cA 97 co, cO k 0 [.ref b, .int (iI t)], cR b cA 96 (iup f2 p0 (co r1))]) XX 3 0 rfl rfl ⟨by omega, by omega, by decide⟩ rfl d_CR_writeText_37 ?_
        refine g_aload_n XX d_CR_writeText_38 rfl 2 rfl ?_
        refine g_iload_n XX d_CR_writeText_39 rfl 1 rfl ?_
        refine g_calli (As := [.int (iI r1)]) (st := []) (wr := [cO k 0 [.ref b, .int (iI t)], cR b cA 96 (iup f2 p0 (co r1))]) XX (c_CR_longer l D cA h a co C N r1 (by first | assumption | omega) (by first | assumption | omega) (by first | assumption | omega)) (x_cw 1 XX.2.2.2.2.1 (gi kw_171) rfl rfl (tm kw_28) (tm kw_172) (tm kw_173) (tm kw_174) ⟨by decide +kernel, by decide +kernel, by decide +kernel⟩ ⟨by decide, by decide⟩) [0, 1] [2, 3] rfl rfl (by decide) (by decide) (by decide) 0 1 rfl rfl rfl rfl (Nat.le_of_ble_eq_true rfl) d_CR_writeText_40 ⟨by decide, by decide⟩ (fun r_ w_ hq => ?_)
        obtain ⟨rfl, rfl⟩ := hq
        show xG P0 l E0 rm_CR_write S0 M0 A0 B0 T0 C0 QQ 4 D vwCl AA 0 0 [cO k 0 [.ref b, .int (iI t)], cR b cA 96 (iup f2 p0 (co r1)), cO h 1 [.ref a, .int (iI N)], cR a cA 97 co] 43 [(3, .int (iI p0)), (2, .int (iI r1)), (0, .ref h), (1, .ref k)] [.int (iI (lf C N r1))]
        refine g_istore_n (lv' := [(2, .int (iI (lf C N r1))), (3, .int (iI p0)), (0, .ref h), (1, .ref k)]) XX d_CR_writeText_43 rfl (by decide) rfl ?_
        refine g_iinc (lv' := [(3, .int (iI (p0 + (-1)))), (2, .int (iI (lf C N r1))), (0, .ref h), (1, .ref k)]) XX d_CR_writeText_44 1 rfl (by decide) rfl ?_
        refine g_goto (tgt := 9) XX d_CR_writeText_47 (by decide) ?_
        refine g_ws (ws' := [cO h 1 [.ref a, .int (iI N)], cR a cA 97 co, cO k 0 [.ref b, .int (iI t)], cR b cA 96 (iup f2 p0 (co r1))]) [2, 3, 0, 1] (by decide) rfl ?_
        exact ih_9 _ (by omega) (lf C N r1) (p0 + (-1)) (iup f2 p0 (co r1)) (by omega) (by rw [show N - 1 - (p0 + (-1)) = (N - 1 - p0) + 1 by omega, wk_s (by omega), h2]) (fun j a b => if z : j = p0 then by rw [iup_eq z, z, e1, h2]; rfl else by rw [iup_ne z]; exact h3 j (by omega) b) (fun i a b => if z : i = N - 1 - p0 then by rw [z, ← h2]; omega else h4 i a (by omega)) rfl
      · -- 21: no
        refine g_iconst XX d_CR_writeText_24 ?_
        exact ret _ _ _ _ [cO h 1 [.ref a, .int (iI N)], cR a cA 97 co, cO k 0 [.ref b, .int (iI t)], cR b cA 96 f2] [0, 1, 2, 3] (by first | exact Or.inl rfl | exact Or.inr rfl) d_CR_writeText_25 (by decide) rfl (⟨0, t, f2, rfl, rfl, Or.inr ⟨rfl, fun g => g (N - 1 - p0) (by omega) (by omega) (by rw [← h2]; omega)⟩⟩)
  exact L9 _ 0 (N - 1) f (by omega) (by rw [show N - 1 - (N - 1) = 0 by omega]; rfl) (fun j a b => by omega) (fun i a b => by omega) rfl
