abbrev rm_M_longer : Room := { frames := 0, cells := 0, slots := 0, locals := 0 }
set_option maxHeartbeats 4000000 in
set_option maxRecDepth 100000 in
theorem c_M_longer (l : Launch) (D : va_G) (cA : ClassId) (y b1 b2 b3 b4 b5 b6 b7 : Nat) (f6 C : Int → Int) (t n m N k0 r0 : Int) (hN : 0 ≤ N ∧ N ≤ 96) (hc : cok C N k0) (hg : ag f6 (fun j => ps (C j)) (N + 1)) (hr : 0 ≤ r0 ∧ r0 ≤ N ∧ C r0 ≠ -2) : xM l y_MO_longer w_MO_longer rm_M_longer D vwCl [(cA, .int)] [.ref y, .int (iI r0), .int (iI (N + 1))] [cO y 5 [.int (iI t), .ref b1, .int (iI n), .ref b2, .ref b3, .int (iI m), .ref b4, .ref b5, .ref b6, .ref b7], cR b6 cA 97 f6] (fun r w => r = iI (lf C N r0) ∧ w = [cO y 5 [.int (iI t), .ref b1, .int (iI n), .ref b2, .ref b3, .int (iI m), .ref b4, .ref b5, .ref b6, .ref b7], cR b6 cA 97 f6]) 0 0 := by
  refine xM.ofI (by decide) rfl (Nat.le_of_ble_eq_true rfl) ?_
  intro P0 E0 S0 M0 A0 B0 T0 C0 AA QQ XX hnm ret
  refine g_iconst XX d_MO_longer_0 ?_
  refine g_istore_n (lv' := [(3, .int (iI 1)), (0, .ref y), (1, .int (iI r0)), (2, .int (iI (N + 1)))]) XX d_MO_longer_1 rfl (by decide) rfl ?_
  refine g_iconst XX d_MO_longer_2 ?_
  refine g_istore (lv' := [(4, .int (iI 0)), (3, .int (iI 1)), (0, .ref y), (1, .int (iI r0)), (2, .int (iI (N + 1)))]) XX d_MO_longer_3 (by decide) rfl ?_
  have L5 : ∀ (k_5 : Nat) (c0 : Int) (o0 : Int), (0 ≤ o0 ∧ o0 ≤ N + 1) → (c0 = 1 + cnt (fun o => decide (0 ≤ C o) && lfb C r0 o) o0) → (N + 1 - o0).toNat = k_5 → xG P0 l E0 rm_M_longer S0 M0 A0 B0 T0 C0 QQ 5 D vwCl AA 0 0 [cO y 5 [.int (iI t), .ref b1, .int (iI n), .ref b2, .ref b3, .int (iI m), .ref b4, .ref b5, .ref b6, .ref b7], cR b6 cA 97 f6] 5 [(4, .int (iI o0)), (3, .int (iI c0)), (0, .ref y), (1, .int (iI r0)), (2, .int (iI (N + 1)))] [] := by
    refine x_ind (fun k_5 ih_5 c0 o0 h1 h2 hk_5 => ?_)
    refine g_iload XX d_MO_longer_5 0 rfl ?_
    refine g_iload_n XX d_MO_longer_7 rfl 4 rfl ?_
    refine g_icmp_ge (tgt := 73) XX d_MO_longer_8 (by decide) ⟨by omega, by omega⟩ ⟨by omega, by omega⟩ (fun h8 => ?_) (fun h8 => ?_)
    · -- 8: yes
      refine g_iload_n XX d_MO_longer_73 rfl 1 rfl ?_
      exact ret _ _ _ _ [cO y 5 [.int (iI t), .ref b1, .int (iI n), .ref b2, .ref b3, .int (iI m), .ref b4, .ref b5, .ref b6, .ref b7], cR b6 cA 97 f6] [0, 1] d_MO_longer_74 (by decide) rfl (⟨by rw [lf_lon hc (by omega) (by omega) (fun z => hr.2.2 (by rw [z]; exact hc.2.2.1)), h2, show o0 = N + 1 by omega], rfl⟩)
    · -- 8: no
      refine g_iload_n XX d_MO_longer_11 rfl 1 rfl ?_
      refine g_aload_n XX d_MO_longer_12 rfl 2 rfl ?_
      refine g_get (C := R_MO) (T := T_MO) (N := 10) XX (tmw win0_MO) 0 rfl rfl 8 (by decide) (tm kw_115) rfl rfl d_MO_longer_13 ?_
      refine g_iload XX d_MO_longer_16 0 rfl ?_
      refine g_iald XX 1 0 rfl rfl ⟨by omega, by omega, by decide⟩ d_MO_longer_18 ?_
      have e1 : f6 o0 = ps (C o0) := hg o0 (by omega) (by omega)
      have e2 : f6 r0 = ps (C r0) := hg r0 (by omega) (by omega)
      have q1 := ps_c (C o0)
      have q2 := ps_c (C r0)
      have w1 := cok_val hc (j := o0) (by omega) (by omega)
      have w2 := cok_val hc (j := r0) (by omega) (by omega)
      refine g_if_lt (tgt := 64) XX d_MO_longer_19 (by decide) ⟨by omega, by omega⟩ (fun h19 => ?_) (fun h19 => ?_)
      · -- 19: yes
        have hz : (decide (0 ≤ C o0) && lfb C r0 o0) = false := by rw [← Bool.not_eq_true]; simp only [lfb, Bool.and_eq_true, decide_eq_true_eq]; omega
        refine g_iconst XX d_MO_longer_64 ?_
        refine g_iadd XX d_MO_longer_65 ?_
        refine g_istore_n (lv' := [(3, .int (iI (c0 + 0))), (4, .int (iI o0)), (0, .ref y), (1, .int (iI r0)), (2, .int (iI (N + 1)))]) XX d_MO_longer_66 rfl (by decide) rfl ?_
        refine g_iinc (lv' := [(4, .int (iI (o0 + 1))), (3, .int (iI (c0 + 0))), (0, .ref y), (1, .int (iI r0)), (2, .int (iI (N + 1)))]) XX d_MO_longer_67 1 rfl (by decide) rfl ?_
        refine g_goto (tgt := 5) XX d_MO_longer_70 (by decide) ?_
        exact ih_5 _ (by omega) (c0 + 0) (o0 + 1) (by omega) (by first | (rw [cnt_y (P := (fun o => decide (0 ≤ C o) && lfb C r0 o)) (by omega) hz]; omega) | (rw [cnt_n (P := (fun o => decide (0 ≤ C o) && lfb C r0 o)) (by omega) hz]; omega)) rfl
      · -- 19: no
        refine g_aload_n XX d_MO_longer_22 rfl 2 rfl ?_
        refine g_get (C := R_MO) (T := T_MO) (N := 10) XX (tmw win0_MO) 0 rfl rfl 8 (by decide) (tm kw_115) rfl rfl d_MO_longer_23 ?_
        refine g_iload XX d_MO_longer_26 0 rfl ?_
        refine g_iald XX 1 0 rfl rfl ⟨by omega, by omega, by decide⟩ d_MO_longer_28 ?_
        refine g_aload_n XX d_MO_longer_29 rfl 2 rfl ?_
        refine g_get (C := R_MO) (T := T_MO) (N := 10) XX (tmw win0_MO) 0 rfl rfl 8 (by decide) (tm kw_115) rfl rfl d_MO_longer_30 ?_
        refine g_iload_n XX d_MO_longer_33 rfl 3 rfl ?_
        refine g_iald XX 1 0 rfl rfl ⟨by omega, by omega, by decide⟩ d_MO_longer_34 ?_
        refine g_icmp_lt (tgt := 60) XX d_MO_longer_35 (by decide) ⟨by omega, by omega⟩ ⟨by omega, by omega⟩ (fun h35 => ?_) (fun h35 => ?_)
        · -- 35: yes
          have hz : (decide (0 ≤ C o0) && lfb C r0 o0) = true := by simp only [lfb, Bool.and_eq_true, decide_eq_true_eq]; omega
          refine g_iconst XX d_MO_longer_60 ?_
          refine g_goto (tgt := 65) XX d_MO_longer_61 (by decide) ?_
          refine g_iadd XX d_MO_longer_65 ?_
          refine g_istore_n (lv' := [(3, .int (iI (c0 + 1))), (4, .int (iI o0)), (0, .ref y), (1, .int (iI r0)), (2, .int (iI (N + 1)))]) XX d_MO_longer_66 rfl (by decide) rfl ?_
          refine g_iinc (lv' := [(4, .int (iI (o0 + 1))), (3, .int (iI (c0 + 1))), (0, .ref y), (1, .int (iI r0)), (2, .int (iI (N + 1)))]) XX d_MO_longer_67 1 rfl (by decide) rfl ?_
          refine g_goto (tgt := 5) XX d_MO_longer_70 (by decide) ?_
          exact ih_5 _ (by omega) (c0 + 1) (o0 + 1) (by omega) (by first | (rw [cnt_y (P := (fun o => decide (0 ≤ C o) && lfb C r0 o)) (by omega) hz]; omega) | (rw [cnt_n (P := (fun o => decide (0 ≤ C o) && lfb C r0 o)) (by omega) hz]; omega)) rfl
        · -- 35: no
          refine g_aload_n XX d_MO_longer_38 rfl 2 rfl ?_
          refine g_get (C := R_MO) (T := T_MO) (N := 10) XX (tmw win0_MO) 0 rfl rfl 8 (by decide) (tm kw_115) rfl rfl d_MO_longer_39 ?_
          refine g_iload XX d_MO_longer_42 0 rfl ?_
          refine g_iald XX 1 0 rfl rfl ⟨by omega, by omega, by decide⟩ d_MO_longer_44 ?_
          refine g_aload_n XX d_MO_longer_45 rfl 2 rfl ?_
          refine g_get (C := R_MO) (T := T_MO) (N := 10) XX (tmw win0_MO) 0 rfl rfl 8 (by decide) (tm kw_115) rfl rfl d_MO_longer_46 ?_
          refine g_iload_n XX d_MO_longer_49 rfl 3 rfl ?_
          refine g_iald XX 1 0 rfl rfl ⟨by omega, by omega, by decide⟩ d_MO_longer_50 ?_
          refine g_icmp_ne (tgt := 64) XX d_MO_longer_51 (by decide) ⟨by omega, by omega⟩ ⟨by omega, by omega⟩ (fun h51 => ?_) (fun h51 => ?_)
          · -- 51: yes
            have hz : (decide (0 ≤ C o0) && lfb C r0 o0) = false := by rw [← Bool.not_eq_true]; simp only [lfb, Bool.and_eq_true, decide_eq_true_eq]; omega
            refine g_iconst XX d_MO_longer_64 ?_
            refine g_iadd XX d_MO_longer_65 ?_
            refine g_istore_n (lv' := [(3, .int (iI (c0 + 0))), (4, .int (iI o0)), (0, .ref y), (1, .int (iI r0)), (2, .int (iI (N + 1)))]) XX d_MO_longer_66 rfl (by decide) rfl ?_
            refine g_iinc (lv' := [(4, .int (iI (o0 + 1))), (3, .int (iI (c0 + 0))), (0, .ref y), (1, .int (iI r0)), (2, .int (iI (N + 1)))]) XX d_MO_longer_67 1 rfl (by decide) rfl ?_
            refine g_goto (tgt := 5) XX d_MO_longer_70 (by decide) ?_
            exact ih_5 _ (by omega) (c0 + 0) (o0 + 1) (by omega) (by first | (rw [cnt_y (P := (fun o => decide (0 ≤ C o) && lfb C r0 o)) (by omega) hz]; omega) | (rw [cnt_n (P := (fun o => decide (0 ≤ C o) && lfb C r0 o)) (by omega) hz]; omega)) rfl
          · -- 51: no
            refine g_iload XX d_MO_longer_54 0 rfl ?_
            refine g_iload_n XX d_MO_longer_56 rfl 3 rfl ?_
            refine g_icmp_ge (tgt := 64) XX d_MO_longer_57 (by decide) ⟨by omega, by omega⟩ ⟨by omega, by omega⟩ (fun h57 => ?_) (fun h57 => ?_)
            · -- 57: yes
              have hz : (decide (0 ≤ C o0) && lfb C r0 o0) = false := by rw [← Bool.not_eq_true]; simp only [lfb, Bool.and_eq_true, decide_eq_true_eq]; omega
              refine g_iconst XX d_MO_longer_64 ?_
              refine g_iadd XX d_MO_longer_65 ?_
              refine g_istore_n (lv' := [(3, .int (iI (c0 + 0))), (4, .int (iI o0)), (0, .ref y), (1, .int (iI r0)), (2, .int (iI (N + 1)))]) XX d_MO_longer_66 rfl (by decide) rfl ?_
              refine g_iinc (lv' := [(4, .int (iI (o0 + 1))), (3, .int (iI (c0 + 0))), (0, .ref y), (1, .int (iI r0)), (2, .int (iI (N + 1)))]) XX d_MO_longer_67 1 rfl (by decide) rfl ?_
              refine g_goto (tgt := 5) XX d_MO_longer_70 (by decide) ?_
              exact ih_5 _ (by omega) (c0 + 0) (o0 + 1) (by omega) (by first | (rw [cnt_y (P := (fun o => decide (0 ≤ C o) && lfb C r0 o)) (by omega) hz]; omega) | (rw [cnt_n (P := (fun o => decide (0 ≤ C o) && lfb C r0 o)) (by omega) hz]; omega)) rfl
            · -- 57: no
              have hz : (decide (0 ≤ C o0) && lfb C r0 o0) = true := by simp only [lfb, Bool.and_eq_true, decide_eq_true_eq]; omega
              refine g_iconst XX d_MO_longer_60 ?_
              refine g_goto (tgt := 65) XX d_MO_longer_61 (by decide) ?_
              refine g_iadd XX d_MO_longer_65 ?_
              refine g_istore_n (lv' := [(3, .int (iI (c0 + 1))), (4, .int (iI o0)), (0, .ref y), (1, .int (iI r0)), (2, .int (iI (N + 1)))]) XX d_MO_longer_66 rfl (by decide) rfl ?_
              refine g_iinc (lv' := [(4, .int (iI (o0 + 1))), (3, .int (iI (c0 + 1))), (0, .ref y), (1, .int (iI r0)), (2, .int (iI (N + 1)))]) XX d_MO_longer_67 1 rfl (by decide) rfl ?_
              refine g_goto (tgt := 5) XX d_MO_longer_70 (by decide) ?_
              exact ih_5 _ (by omega) (c0 + 1) (o0 + 1) (by omega) (by first | (rw [cnt_y (P := (fun o => decide (0 ≤ C o) && lfb C r0 o)) (by omega) hz]; omega) | (rw [cnt_n (P := (fun o => decide (0 ≤ C o) && lfb C r0 o)) (by omega) hz]; omega)) rfl
  exact L5 _ 1 0 (by omega) (by rw [cnt_0 (by omega)]; omega) rfl
abbrev rm_M_turn : Room := { frames := 1, cells := 0, slots := 0, locals := 24 }
set_option maxHeartbeats 4000000 in
set_option maxRecDepth 100000 in
theorem c_M_turn (l : Launch) (D : va_G) (cA : ClassId) (y b1 b2 b3 b4 b5 b6 b7 : Nat) (f2 f6 C : Int → Int) (t n m N k0 : Int) (hN : 0 ≤ N ∧ N ≤ 96) (hc : cok C N k0) (hg : ag f6 (fun j => ps (C j)) (N + 1)) : xM l y_MO_turnBack w_MO_turnBack rm_M_turn D vwCl [(cA, .int)] [.ref y, .int (iI N)] [cO y 5 [.int (iI t), .ref b1, .int (iI n), .ref b2, .ref b3, .int (iI m), .ref b4, .ref b5, .ref b6, .ref b7], cR b2 cA 96 f2, cR b6 cA 97 f6] (fun r w => ∃ (z : Int), ∃ (f2' : Int → Int), r = iI z ∧ w = [cO y 5 [.int (iI t), .ref b1, .int (iI n), .ref b2, .ref b3, .int (iI m), .ref b4, .ref b5, .ref b6, .ref b7], cR b2 cA 96 f2', cR b6 cA 97 f6] ∧ ((z = 1 ∧ wgood C N ∧ ag f2' (xt C N) N) ∨ (z = 0 ∧ ¬ wgood C N))) 0 0 := by
  refine xM.ofZ (by decide) rfl (Nat.le_of_ble_eq_true rfl) ?_
  intro P0 E0 S0 M0 A0 B0 T0 C0 AA QQ XX hnm ret
  refine g_iconst XX d_MO_turnBack_0 ?_
  refine g_istore_n (lv' := [(2, .int (iI 0)), (0, .ref y), (1, .int (iI N))]) XX d_MO_turnBack_1 rfl (by decide) rfl ?_
  refine g_iload_n XX d_MO_turnBack_2 rfl 2 rfl ?_
  refine g_iconst XX d_MO_turnBack_3 ?_
  refine g_isub XX d_MO_turnBack_4 ?_
  refine g_istore_n (lv' := [(3, .int (iI (N - 1))), (2, .int (iI 0)), (0, .ref y), (1, .int (iI N))]) XX d_MO_turnBack_5 rfl (by decide) rfl ?_
  have L6 : ∀ (k_6 : Nat) (r1 : Int) (p0 : Int) (f22 : Int → Int), (-1 ≤ p0 ∧ p0 ≤ N - 1) → (r1 = wk C N (N - 1 - p0)) → (∀ j, p0 < j → j < N → f22 j = xt C N j) → (∀ i, 0 ≤ i → i < N - 1 - p0 → C (wk C N i) ≠ -2) → (p0 + 1).toNat = k_6 → xG P0 l E0 rm_M_turn S0 M0 A0 B0 T0 C0 QQ 4 D vwCl AA 0 0 [cO y 5 [.int (iI t), .ref b1, .int (iI n), .ref b2, .ref b3, .int (iI m), .ref b4, .ref b5, .ref b6, .ref b7], cR b2 cA 96 f22, cR b6 cA 97 f6] 6 [(3, .int (iI p0)), (2, .int (iI r1)), (0, .ref y), (1, .int (iI N))] [] := by
    refine x_ind (fun k_6 ih_6 r1 p0 f22 h1 h2 h3 h4 hk_6 => ?_)
    refine g_iload_n XX d_MO_turnBack_6 rfl 0 rfl ?_
    refine g_if_lt (tgt := 48) XX d_MO_turnBack_7 (by decide) ⟨by omega, by omega⟩ (fun h7 => ?_) (fun h7 => ?_)
    · -- 7: yes
      have hgood : wgood C N := fun i a b => h4 i a (by omega)
      have hk1 := (wk_col (by omega) hc hgood).2.1
      have hr1 : r1 = k0 := by rw [h2, show N - 1 - p0 = N by omega]; exact hk1
      have hk2 := hc.1
      have hk3 := hc.2.1
      have e1 : f6 r1 = ps (C r1) := hg r1 (by omega) (by omega)
      have hv : C r1 = -2 := by rw [hr1]; exact hc.2.2.1
      have q1 := ps_c (C r1)
      refine g_aload_n XX d_MO_turnBack_48 rfl 2 rfl ?_
      refine g_get (C := R_MO) (T := T_MO) (N := 10) XX (tmw win0_MO) 0 rfl rfl 8 (by decide) (tm kw_115) rfl rfl d_MO_turnBack_49 ?_
      refine g_iload_n XX d_MO_turnBack_52 rfl 1 rfl ?_
      refine g_iald XX 2 0 rfl rfl ⟨by omega, by omega, by decide⟩ d_MO_turnBack_53 ?_
      refine g_if_ge (tgt := 61) XX d_MO_turnBack_54 (by decide) ⟨by omega, by omega⟩ (fun h54 => by exfalso; omega) (fun h54 => ?_)
      refine g_iconst XX d_MO_turnBack_57 ?_
      refine g_goto (tgt := 62) XX d_MO_turnBack_58 (by decide) ?_
      exact ret _ _ _ _ [cO y 5 [.int (iI t), .ref b1, .int (iI n), .ref b2, .ref b3, .int (iI m), .ref b4, .ref b5, .ref b6, .ref b7], cR b2 cA 96 f22, cR b6 cA 97 f6] [0, 1, 2] (by first | exact Or.inl rfl | exact Or.inr rfl) d_MO_turnBack_62 (by decide) rfl (⟨1, f22, rfl, rfl, Or.inl ⟨rfl, hgood, fun j a b => h3 j (by omega) b⟩⟩)
    · -- 7: no
      have rr := wk_rng (col := C) (N := N) (by omega) (N - 1 - p0) (by omega)
      have e1 : f6 r1 = ps (C r1) := hg r1 (by omega) (by omega)
      have q1 := ps_c (C r1)
      have w1 := cok_val hc (j := r1) (by omega) (by omega)
      refine g_aload_n XX d_MO_turnBack_10 rfl 2 rfl ?_
      refine g_get (C := R_MO) (T := T_MO) (N := 10) XX (tmw win0_MO) 0 rfl rfl 8 (by decide) (tm kw_115) rfl rfl d_MO_turnBack_11 ?_
      refine g_iload_n XX d_MO_turnBack_14 rfl 1 rfl ?_
      refine g_iald XX 2 0 rfl rfl ⟨by omega, by omega, by decide⟩ d_MO_turnBack_15 ?_
      refine g_if_ge (tgt := 21) XX d_MO_turnBack_16 (by decide) ⟨by omega, by omega⟩ (fun h16 => ?_) (fun h16 => ?_)
      · -- 16: yes
        have ev : f6 r1 = C r1 := by omega
        refine g_aload_n XX d_MO_turnBack_21 rfl 2 rfl ?_
        refine g_get (C := R_MO) (T := T_MO) (N := 10) XX (tmw win0_MO) 0 rfl rfl 3 (by decide) (tm kw_111) rfl rfl d_MO_turnBack_22 ?_
        refine g_iload_n XX d_MO_turnBack_25 rfl 0 rfl ?_
        refine g_aload_n XX d_MO_turnBack_26 rfl 2 rfl ?_
        refine g_get (C := R_MO) (T := T_MO) (N := 10) XX (tmw win0_MO) 0 rfl rfl 8 (by decide) (tm kw_115) rfl rfl d_MO_turnBack_27 ?_
        refine g_iload_n XX d_MO_turnBack_30 rfl 1 rfl ?_
        refine g_iald XX 2 0 rfl rfl ⟨by omega, by omega, by decide⟩ d_MO_turnBack_31 ?_
        refine g_iast (ws' := [cO y 5 [.int (iI t), .ref b1, .int (iI n), .ref b2, .ref b3, .int (iI m), .ref b4, .ref b5, .ref b6, .ref b7], cR b2 cA 96 (iup f22 p0 (f6 r1)), cR b6 cA 97 f6]) XX 1 0 rfl rfl ⟨by omega, by omega, by decide⟩ rfl d_MO_turnBack_32 ?_
        refine g_aload_n XX d_MO_turnBack_33 rfl 2 rfl ?_
        refine g_iload_n XX d_MO_turnBack_34 rfl 1 rfl ?_
        refine g_iload_n XX d_MO_turnBack_35 rfl 3 rfl ?_
        refine g_iconst XX d_MO_turnBack_36 ?_
        refine g_iadd XX d_MO_turnBack_37 ?_
        refine g_calli (As := [.int (iI r1), .int (iI (N + 1))]) (st := []) (wr := [cR b2 cA 96 (iup f22 p0 (f6 r1))]) XX (c_M_longer l D cA y b1 b2 b3 b4 b5 b6 b7 f6 C t n m N k0 r1 (by first | assumption | omega) (by first | assumption | omega) (by first | assumption | omega) (by first | assumption | omega)) (x_cw 2 XX.2.2.2.2.1 (gi kw_150) rfl rfl (tm kw_123) (tm kw_151) (tm kw_152) (tm kw_153) ⟨by decide +kernel, by decide +kernel, by decide +kernel⟩ ⟨by decide, by decide⟩) [0, 2] [1] rfl rfl (by decide) (by decide) (by decide) 0 5 rfl rfl rfl rfl (Nat.le_of_ble_eq_true rfl) d_MO_turnBack_38 ⟨by decide, by decide⟩ (fun r_ w_ hq => ?_)
        obtain ⟨rfl, rfl⟩ := hq
        show xG P0 l E0 rm_M_turn S0 M0 A0 B0 T0 C0 QQ 4 D vwCl AA 0 0 [cR b2 cA 96 (iup f22 p0 (f6 r1)), cO y 5 [.int (iI t), .ref b1, .int (iI n), .ref b2, .ref b3, .int (iI m), .ref b4, .ref b5, .ref b6, .ref b7], cR b6 cA 97 f6] 41 [(3, .int (iI p0)), (2, .int (iI r1)), (0, .ref y), (1, .int (iI N))] [.int (iI (lf C N r1))]
        refine g_istore_n (lv' := [(2, .int (iI (lf C N r1))), (3, .int (iI p0)), (0, .ref y), (1, .int (iI N))]) XX d_MO_turnBack_41 rfl (by decide) rfl ?_
        refine g_iinc (lv' := [(3, .int (iI (p0 + (-1)))), (2, .int (iI (lf C N r1))), (0, .ref y), (1, .int (iI N))]) XX d_MO_turnBack_42 1 rfl (by decide) rfl ?_
        refine g_goto (tgt := 6) XX d_MO_turnBack_45 (by decide) ?_
        refine g_ws (ws' := [cO y 5 [.int (iI t), .ref b1, .int (iI n), .ref b2, .ref b3, .int (iI m), .ref b4, .ref b5, .ref b6, .ref b7], cR b2 cA 96 (iup f22 p0 (f6 r1)), cR b6 cA 97 f6]) [1, 0, 2] (by decide) rfl ?_
        exact ih_6 _ (by omega) (lf C N r1) (p0 + (-1)) (iup f22 p0 (f6 r1)) (by omega) (by rw [show N - 1 - (p0 + (-1)) = (N - 1 - p0) + 1 by omega, wk_s (by omega), h2]) (fun j a b => if z : j = p0 then by rw [iup_eq z, z, ev, h2]; rfl else by rw [iup_ne z]; exact h3 j (by omega) b) (fun i a b => if z : i = N - 1 - p0 then by rw [z, ← h2]; omega else h4 i a (by omega)) rfl
      · -- 16: no
        refine g_iconst XX d_MO_turnBack_19 ?_
        exact ret _ _ _ _ [cO y 5 [.int (iI t), .ref b1, .int (iI n), .ref b2, .ref b3, .int (iI m), .ref b4, .ref b5, .ref b6, .ref b7], cR b2 cA 96 f22, cR b6 cA 97 f6] [0, 1, 2] (by first | exact Or.inl rfl | exact Or.inr rfl) d_MO_turnBack_20 (by decide) rfl (⟨0, f22, rfl, rfl, Or.inr ⟨rfl, fun g => g (N - 1 - p0) (by omega) (by omega) (by rw [← h2]; omega)⟩⟩)
  exact L6 _ 0 (N - 1) f2 (by omega) (by rw [show N - 1 - (N - 1) = 0 by omega]; rfl) (fun j a b => by omega) (fun i a b => by omega) rfl
abbrev rm_M_revert : Room := { frames := 3, cells := 0, slots := 0, locals := 68 }
set_option maxHeartbeats 4000000 in
set_option maxRecDepth 100000 in
theorem c_M_revert (l : Launch) (D : va_G) (cA : ClassId) (y b1 b2 b3 b4 b5 b6 b7 : Nat) (f1 T f2 X f3 f6 f7 : Int → Int) (t n m i : Int) (ht : 0 ≤ t ∧ t ≤ 96) (hfT : ag f1 T t) (hbT : bt8 T t) (hn : 0 ≤ n ∧ n ≤ 96) (hfX : ag f2 X n) (hbX : bt8 X n) (hfO : ag f3 (og X n) (n + 1)) (hi : -2147483648 ≤ i ∧ i < 2147483648) : xM l y_MO_revert w_MO_revert rm_M_revert D vwCl [(cA, .int)] [.ref y, .int (iI i)] [cO y 5 [.int (iI t), .ref b1, .int (iI n), .ref b2, .ref b3, .int (iI m), .ref b4, .ref b5, .ref b6, .ref b7], cR b1 cA 96 f1, cR b2 cA 96 f2, cR b3 cA 97 f3, cR b6 cA 97 f6, cR b7 cA 96 f7] (fun r w => ∃ (z : Int), ∃ (t' : Int), ∃ (X' : Int → Int), ∃ (n' : Int), ∃ (f2' : Int → Int), ∃ (f3' : Int → Int), ∃ (f6' : Int → Int), ∃ (f7' : Int → Int), r = iI z ∧ w = [cO y 5 [.int (iI t'), .ref b1, .int (iI n'), .ref b2, .ref b3, .int (iI m), .ref b4, .ref b5, .ref b6, .ref b7], cR b1 cA 96 f1, cR b2 cA 96 f2', cR b3 cA 97 f3', cR b6 cA 97 f6', cR b7 cA 96 f7'] ∧ (ag f2' X' n' ∧ bt8 X' n' ∧ (0 ≤ n' ∧ n' ≤ 96) ∧ ag f3' (og X' n') (n' + 1)) ∧ (rvP T t X n i z t' X' n')) 0 0 := by
  refine xM.ofI (by decide) rfl (Nat.le_of_ble_eq_true rfl) ?_
  intro P0 E0 S0 M0 A0 B0 T0 C0 AA QQ XX hnm ret
  refine g_iload_n XX d_MO_revert_0 rfl 1 rfl ?_
  refine g_if_lt (tgt := 12) XX d_MO_revert_1 (by decide) ⟨by omega, by omega⟩ (fun h1 => ?_) (fun h1 => ?_)
  · -- 1: yes
    refine g_iconst XX d_MO_revert_12 ?_
    exact ret _ _ _ _ [cO y 5 [.int (iI t), .ref b1, .int (iI n), .ref b2, .ref b3, .int (iI m), .ref b4, .ref b5, .ref b6, .ref b7], cR b1 cA 96 f1, cR b2 cA 96 f2, cR b3 cA 97 f3, cR b6 cA 97 f6, cR b7 cA 96 f7] [0, 1, 2, 3, 4, 5] d_MO_revert_13 (by decide) rfl (⟨(-1), t, X, n, f2, f3, f6, f7, rfl, rfl, ⟨hfX, hbX, hn, hfO⟩, Or.inl ⟨by omega, rfl, rfl, rfl, rfl⟩⟩)
  · -- 1: no
    refine g_iload_n XX d_MO_revert_4 rfl 1 rfl ?_
    refine g_aload_n XX d_MO_revert_5 rfl 0 rfl ?_
    refine g_get (C := R_MO) (T := T_MO) (N := 10) XX (tmw win0_MO) 0 rfl rfl 0 (by decide) (tm kw_117) rfl rfl d_MO_revert_6 ?_
    refine g_icmp_le (tgt := 14) XX d_MO_revert_9 (by decide) ⟨by omega, by omega⟩ ⟨by omega, by omega⟩ (fun h9 => ?_) (fun h9 => ?_)
    · -- 9: yes
      refine g_aload_n XX d_MO_revert_14 rfl 0 rfl ?_
      refine g_get (C := R_MO) (T := T_MO) (N := 10) XX (tmw win0_MO) 0 rfl rfl 0 (by decide) (tm kw_117) rfl rfl d_MO_revert_15 ?_
      refine g_istore_n (lv' := [(2, .int (iI t)), (0, .ref y), (1, .int (iI i))]) XX d_MO_revert_18 rfl (by decide) rfl ?_
      refine g_iconst XX d_MO_revert_19 ?_
      refine g_istore_n (lv' := [(3, .int (iI 0)), (2, .int (iI t)), (0, .ref y), (1, .int (iI i))]) XX d_MO_revert_20 rfl (by decide) rfl ?_
      have L21 : ∀ (k_21 : Nat) (r0 : Int) (f62 : Int → Int), (0 ≤ r0 ∧ r0 ≤ t + 1) → (ag f62 (fun j => ps (gv T i j)) r0) → (t + 1 - r0).toNat = k_21 → xG P0 l E0 rm_M_revert S0 M0 A0 B0 T0 C0 QQ 6 D vwCl AA 0 0 [cO y 5 [.int (iI t), .ref b1, .int (iI n), .ref b2, .ref b3, .int (iI m), .ref b4, .ref b5, .ref b6, .ref b7], cR b1 cA 96 f1, cR b2 cA 96 f2, cR b3 cA 97 f3, cR b6 cA 97 f62, cR b7 cA 96 f7] 21 [(3, .int (iI r0)), (2, .int (iI t)), (0, .ref y), (1, .int (iI i))] [] := by
        refine x_ind (fun k_21 ih_21 r0 f62 h1 h2 hk_21 => ?_)
        refine g_iload_n XX d_MO_revert_21 rfl 0 rfl ?_
        refine g_iload_n XX d_MO_revert_22 rfl 1 rfl ?_
        refine g_icmp_gt (tgt := 69) XX d_MO_revert_23 (by decide) ⟨by omega, by omega⟩ ⟨by omega, by omega⟩ (fun h23 => ?_) (fun h23 => ?_)
        · -- 23: yes
          have hgv : ag f62 (fun j => ps (gv T i j)) (t + 1) := ag_le h2 (by omega)
          have hck := gv_cok (T := T) (t := t) (k := i) hbT (by omega) (by omega)
          refine g_aload_n XX d_MO_revert_69 rfl 2 rfl ?_
          refine g_iconst XX d_MO_revert_70 ?_
          refine g_put (C := R_MO) (T := T_MO) (N := 10) (ty := (.int)) (ws' := [cO y 5 [.int (iI 0), .ref b1, .int (iI n), .ref b2, .ref b3, .int (iI m), .ref b4, .ref b5, .ref b6, .ref b7], cR b1 cA 96 f1, cR b2 cA 96 f2, cR b3 cA 97 f3, cR b6 cA 97 f62, cR b7 cA 96 f7]) XX (tmw win0_MO) ty_MO ok_MO nm_MO 0 rfl rfl 0 (by decide) (tm kw_117) rfl rfl (by decide +kernel) rfl rfl (Nat.le_of_ble_eq_true rfl) rfl d_MO_revert_71 ?_
          refine g_aload_n XX d_MO_revert_74 rfl 2 rfl ?_
          refine g_get (C := R_MO) (T := T_MO) (N := 10) XX (tmw win0_MO) 0 rfl rfl 2 (by decide) (tm kw_119) rfl rfl d_MO_revert_75 ?_
          refine g_istore_n (lv' := [(3, .int (iI n)), (2, .int (iI t)), (0, .ref y), (1, .int (iI i))]) XX d_MO_revert_78 rfl (by decide) rfl ?_
          refine g_iconst XX d_MO_revert_79 ?_
          refine g_istore (lv' := [(4, .int (iI 0)), (3, .int (iI n)), (2, .int (iI t)), (0, .ref y), (1, .int (iI i))]) XX d_MO_revert_80 (by decide) rfl ?_
          have L82 : ∀ (k_82 : Nat) (k0 : Int) (f72 : Int → Int), (0 ≤ k0 ∧ k0 ≤ n) → (ag f72 X k0) → (n - k0).toNat = k_82 → xG P0 l E0 rm_M_revert S0 M0 A0 B0 T0 C0 QQ 6 D vwCl AA 0 0 [cO y 5 [.int (iI 0), .ref b1, .int (iI n), .ref b2, .ref b3, .int (iI m), .ref b4, .ref b5, .ref b6, .ref b7], cR b1 cA 96 f1, cR b2 cA 96 f2, cR b3 cA 97 f3, cR b6 cA 97 f62, cR b7 cA 96 f72] 82 [(4, .int (iI k0)), (3, .int (iI n)), (2, .int (iI t)), (0, .ref y), (1, .int (iI i))] [] := by
            refine x_ind (fun k_82 ih_82 k0 f72 g1 g2 hk_82 => ?_)
            refine g_iload XX d_MO_revert_82 0 rfl ?_
            refine g_iload_n XX d_MO_revert_84 rfl 1 rfl ?_
            refine g_icmp_ge (tgt := 108) XX d_MO_revert_85 (by decide) ⟨by omega, by omega⟩ ⟨by omega, by omega⟩ (fun h85 => ?_) (fun h85 => ?_)
            · -- 85: yes
              have hold : ag f72 X n := ag_le g2 (by omega)
              refine g_aload_n XX d_MO_revert_108 rfl 3 rfl ?_
              refine g_iload_n XX d_MO_revert_109 rfl 2 rfl ?_
              refine g_put (C := R_MO) (T := T_MO) (N := 10) (ty := (.int)) (ws' := [cO y 5 [.int (iI 0), .ref b1, .int (iI t), .ref b2, .ref b3, .int (iI m), .ref b4, .ref b5, .ref b6, .ref b7], cR b1 cA 96 f1, cR b2 cA 96 f2, cR b3 cA 97 f3, cR b6 cA 97 f62, cR b7 cA 96 f72]) XX (tmw win0_MO) ty_MO ok_MO nm_MO 0 rfl rfl 2 (by decide) (tm kw_119) rfl rfl (by decide +kernel) rfl rfl (Nat.le_of_ble_eq_true rfl) rfl d_MO_revert_110 ?_
              refine g_aload_n XX d_MO_revert_113 rfl 3 rfl ?_
              refine g_iload_n XX d_MO_revert_114 rfl 2 rfl ?_
              refine g_calli (As := [.int (iI t)]) (st := []) (wr := [cR b1 cA 96 f1, cR b3 cA 97 f3, cR b7 cA 96 f72]) XX (c_M_turn l D cA y b1 b2 b3 b4 b5 b6 b7 f2 f62 (gv T i) 0 t m t i (by first | assumption | omega) (hck) (hgv)) (x_cw 1 XX.2.2.2.2.1 (gi kw_154) rfl rfl (tm kw_123) (tm kw_155) (tm kw_156) (tm kw_157) ⟨by decide +kernel, by decide +kernel, by decide +kernel⟩ ⟨by decide, by decide⟩) [0, 2, 4] [1, 3, 5] rfl rfl (by decide) (by decide) (by decide) 0 5 rfl rfl rfl rfl (Nat.le_of_ble_eq_true rfl) d_MO_revert_115 ⟨by decide, by decide⟩ (fun r_ w_ hq => ?_)
              obtain ⟨z1, f21, rfl, rfl, u115_0⟩ := hq
              show xG P0 l E0 rm_M_revert S0 M0 A0 B0 T0 C0 QQ 6 D vwCl AA 0 0 [cR b1 cA 96 f1, cR b3 cA 97 f3, cR b7 cA 96 f72, cO y 5 [.int (iI 0), .ref b1, .int (iI t), .ref b2, .ref b3, .int (iI m), .ref b4, .ref b5, .ref b6, .ref b7], cR b2 cA 96 f21, cR b6 cA 97 f62] 118 [(4, .int (iI k0)), (3, .int (iI n)), (2, .int (iI t)), (0, .ref y), (1, .int (iI i))] [.int (iI z1)]
              have hzz : z1 = 0 ∨ z1 = 1 := u115_0.elim (fun g => Or.inr g.1) (fun g => Or.inl g.1)
              refine g_istore (lv' := [(4, .int (iI z1)), (3, .int (iI n)), (2, .int (iI t)), (0, .ref y), (1, .int (iI i))]) XX d_MO_revert_118 (by decide) rfl ?_
              refine g_iload XX d_MO_revert_120 0 rfl ?_
              refine g_if_eq (tgt := 129) XX d_MO_revert_122 (by decide) ⟨by omega, by omega⟩ (fun h122 => ?_) (fun h122 => ?_)
              · -- 122: yes
                refine g_iconst XX d_MO_revert_129 ?_
                refine g_istore (lv' := [(5, .int (iI 0)), (4, .int (iI z1)), (3, .int (iI n)), (2, .int (iI t)), (0, .ref y), (1, .int (iI i))]) XX d_MO_revert_130 (by decide) rfl ?_
                have L132 : ∀ (k_132 : Nat) (gd : Int) (r5 : Int), (0 ≤ r5 ∧ r5 ≤ t + 1) → (gd = z1) → (t + 1 - r5).toNat = k_132 → xG P0 l E0 rm_M_revert S0 M0 A0 B0 T0 C0 QQ 6 D vwCl AA 0 0 [cR b1 cA 96 f1, cR b3 cA 97 f3, cR b7 cA 96 f72, cO y 5 [.int (iI 0), .ref b1, .int (iI t), .ref b2, .ref b3, .int (iI m), .ref b4, .ref b5, .ref b6, .ref b7], cR b2 cA 96 f21, cR b6 cA 97 f62] 132 [(5, .int (iI r5)), (4, .int (iI gd)), (3, .int (iI n)), (2, .int (iI t)), (0, .ref y), (1, .int (iI i))] [] := by
                  refine x_ind (fun k_132 ih_132 gd r5 y1 y2 hk_132 => ?_)
                  refine g_iload XX d_MO_revert_132 0 rfl ?_
                  refine g_iload_n XX d_MO_revert_134 rfl 3 rfl ?_
                  refine g_icmp_gt (tgt := 188) XX d_MO_revert_135 (by decide) ⟨by omega, by omega⟩ ⟨by omega, by omega⟩ (fun h135 => ?_) (fun h135 => ?_)
                  · -- 135: yes
                    refine g_iload XX d_MO_revert_188 1 rfl ?_
                    refine g_if_eq (tgt := 198) XX d_MO_revert_190 (by decide) ⟨by omega, by omega⟩ (fun h190 => ?_) (fun h190 => by exfalso; omega)
                    have ng : ¬ wgood (gv T i) t := u115_0.elim (fun g => absurd (g.1.symm.trans h122) (by decide)) (fun g => g.2)
                    refine g_iconst XX d_MO_revert_198 ?_
                    refine g_istore (lv' := [(5, .int (iI 0)), (4, .int (iI gd)), (3, .int (iI n)), (2, .int (iI t)), (0, .ref y), (1, .int (iI i))]) XX d_MO_revert_199 (by decide) rfl ?_
                    have L201 : ∀ (k_201 : Nat) (k1 : Int) (f23 : Int → Int), (0 ≤ k1 ∧ k1 ≤ n) → (ag f23 X k1) → (n - k1).toNat = k_201 → xG P0 l E0 rm_M_revert S0 M0 A0 B0 T0 C0 QQ 6 D vwCl AA 0 0 [cR b1 cA 96 f1, cR b3 cA 97 f3, cR b7 cA 96 f72, cO y 5 [.int (iI 0), .ref b1, .int (iI t), .ref b2, .ref b3, .int (iI m), .ref b4, .ref b5, .ref b6, .ref b7], cR b2 cA 96 f23, cR b6 cA 97 f62] 201 [(5, .int (iI k1)), (4, .int (iI gd)), (3, .int (iI n)), (2, .int (iI t)), (0, .ref y), (1, .int (iI i))] [] := by
                      refine x_ind (fun k_201 ih_201 k1 f23 z1_ z2_ hk_201 => ?_)
                      refine g_iload XX d_MO_revert_201 0 rfl ?_
                      refine g_iload_n XX d_MO_revert_203 rfl 2 rfl ?_
                      refine g_icmp_ge (tgt := 227) XX d_MO_revert_204 (by decide) ⟨by omega, by omega⟩ ⟨by omega, by omega⟩ (fun h204 => ?_) (fun h204 => ?_)
                      · -- 204: yes
                        refine g_aload_n XX d_MO_revert_227 rfl 4 rfl ?_
                        refine g_iload_n XX d_MO_revert_228 rfl 2 rfl ?_
                        refine g_put (C := R_MO) (T := T_MO) (N := 10) (ty := (.int)) (ws' := [cR b1 cA 96 f1, cR b3 cA 97 f3, cR b7 cA 96 f72, cO y 5 [.int (iI 0), .ref b1, .int (iI n), .ref b2, .ref b3, .int (iI m), .ref b4, .ref b5, .ref b6, .ref b7], cR b2 cA 96 f23, cR b6 cA 97 f62]) XX (tmw win0_MO) ty_MO ok_MO nm_MO 3 rfl rfl 2 (by decide) (tm kw_119) rfl rfl (by decide +kernel) rfl rfl (Nat.le_of_ble_eq_true rfl) rfl d_MO_revert_229 ?_
                        refine g_aload_n XX d_MO_revert_232 rfl 4 rfl ?_
                        refine g_callv (As := []) (st := []) (wr := [cR b1 cA 96 f1, cR b7 cA 96 f72, cR b6 cA 97 f62]) XX (c_M_sort l D cA y b1 b2 b3 b4 b5 b6 b7 f23 f3 X 0 n m (by first | assumption | omega) (ag_le z2_ (by omega)) (by first | assumption | omega)) (x_cw 0 XX.2.2.2.2.1 (gi kw_129) rfl rfl (tm kw_123) (tm kw_130) (tm kw_131) (tm kw_132) ⟨by decide +kernel, by decide +kernel, by decide +kernel⟩ ⟨by decide, by decide⟩) [3, 4, 1] [0, 2, 5] rfl rfl (by decide) (by decide) (by decide) 3 5 rfl rfl rfl rfl (Nat.le_of_ble_eq_true rfl) d_MO_revert_233 ⟨by decide, by decide⟩ (fun w_ hq => ?_)
                        obtain ⟨f32, rfl, u233_0⟩ := hq
                        show xG P0 l E0 rm_M_revert S0 M0 A0 B0 T0 C0 QQ 6 D vwCl AA 0 0 [cR b1 cA 96 f1, cR b7 cA 96 f72, cR b6 cA 97 f62, cO y 5 [.int (iI 0), .ref b1, .int (iI n), .ref b2, .ref b3, .int (iI m), .ref b4, .ref b5, .ref b6, .ref b7], cR b2 cA 96 f23, cR b3 cA 97 f32] 236 [(5, .int (iI k1)), (4, .int (iI gd)), (3, .int (iI n)), (2, .int (iI t)), (0, .ref y), (1, .int (iI i))] []
                        refine g_bipush (v := -4) XX d_MO_revert_236 (by decide) ?_
                        exact ret _ _ _ _ [cO y 5 [.int (iI 0), .ref b1, .int (iI n), .ref b2, .ref b3, .int (iI m), .ref b4, .ref b5, .ref b6, .ref b7], cR b1 cA 96 f1, cR b2 cA 96 f23, cR b3 cA 97 f32, cR b6 cA 97 f62, cR b7 cA 96 f72] [3, 0, 4, 5, 2, 1] d_MO_revert_238 (by decide) rfl (⟨(-4), 0, X, n, f23, f32, f62, f72, rfl, rfl, ⟨ag_le z2_ (by omega), hbX, hn, u233_0⟩, Or.inr (Or.inr ⟨by omega, ng, rfl, rfl, rfl, rfl⟩)⟩)
                      · -- 204: no
                        refine g_aload_n XX d_MO_revert_207 rfl 4 rfl ?_
                        refine g_get (C := R_MO) (T := T_MO) (N := 10) XX (tmw win0_MO) 3 rfl rfl 3 (by decide) (tm kw_111) rfl rfl d_MO_revert_208 ?_
                        refine g_iload XX d_MO_revert_211 0 rfl ?_
                        refine g_aload_n XX d_MO_revert_213 rfl 4 rfl ?_
                        refine g_get (C := R_MO) (T := T_MO) (N := 10) XX (tmw win0_MO) 3 rfl rfl 9 (by decide) (tm kw_116) rfl rfl d_MO_revert_214 ?_
                        refine g_iload XX d_MO_revert_217 0 rfl ?_
                        refine g_iald XX 2 0 rfl rfl ⟨by omega, by omega, by decide⟩ d_MO_revert_219 ?_
                        refine g_iast (ws' := [cR b1 cA 96 f1, cR b3 cA 97 f3, cR b7 cA 96 f72, cO y 5 [.int (iI 0), .ref b1, .int (iI t), .ref b2, .ref b3, .int (iI m), .ref b4, .ref b5, .ref b6, .ref b7], cR b2 cA 96 (iup f23 k1 (f72 k1)), cR b6 cA 97 f62]) XX 4 0 rfl rfl ⟨by omega, by omega, by decide⟩ rfl d_MO_revert_220 ?_
                        refine g_iinc (lv' := [(5, .int (iI (k1 + 1))), (4, .int (iI gd)), (3, .int (iI n)), (2, .int (iI t)), (0, .ref y), (1, .int (iI i))]) XX d_MO_revert_221 0 rfl (by decide) rfl ?_
                        refine g_goto (tgt := 201) XX d_MO_revert_224 (by decide) ?_
                        exact ih_201 _ (by omega) (k1 + 1) (iup f23 k1 (f72 k1)) (by omega) (ag_s z2_ (hold k1 (by omega) (by omega))) rfl
                    exact L201 _ 0 f21 (by omega) (ag_0 (by omega)) rfl
                  · -- 135: no
                    refine g_iload XX d_MO_revert_138 1 rfl ?_
                    refine g_if_eq (tgt := 188) XX d_MO_revert_140 (by decide) ⟨by omega, by omega⟩ (fun h140 => ?_) (fun h140 => by exfalso; omega)
                    refine g_iload XX d_MO_revert_188 1 rfl ?_
                    refine g_if_eq (tgt := 198) XX d_MO_revert_190 (by decide) ⟨by omega, by omega⟩ (fun h190 => ?_) (fun h190 => by exfalso; omega)
                    have ng : ¬ wgood (gv T i) t := u115_0.elim (fun g => absurd (g.1.symm.trans h122) (by decide)) (fun g => g.2)
                    refine g_iconst XX d_MO_revert_198 ?_
                    refine g_istore (lv' := [(5, .int (iI 0)), (4, .int (iI gd)), (3, .int (iI n)), (2, .int (iI t)), (0, .ref y), (1, .int (iI i))]) XX d_MO_revert_199 (by decide) rfl ?_
                    have L201 : ∀ (k_201 : Nat) (k1 : Int) (f23 : Int → Int), (0 ≤ k1 ∧ k1 ≤ n) → (ag f23 X k1) → (n - k1).toNat = k_201 → xG P0 l E0 rm_M_revert S0 M0 A0 B0 T0 C0 QQ 6 D vwCl AA 0 0 [cR b1 cA 96 f1, cR b3 cA 97 f3, cR b7 cA 96 f72, cO y 5 [.int (iI 0), .ref b1, .int (iI t), .ref b2, .ref b3, .int (iI m), .ref b4, .ref b5, .ref b6, .ref b7], cR b2 cA 96 f23, cR b6 cA 97 f62] 201 [(5, .int (iI k1)), (4, .int (iI gd)), (3, .int (iI n)), (2, .int (iI t)), (0, .ref y), (1, .int (iI i))] [] := by
                      refine x_ind (fun k_201 ih_201 k1 f23 z1_ z2_ hk_201 => ?_)
                      refine g_iload XX d_MO_revert_201 0 rfl ?_
                      refine g_iload_n XX d_MO_revert_203 rfl 2 rfl ?_
                      refine g_icmp_ge (tgt := 227) XX d_MO_revert_204 (by decide) ⟨by omega, by omega⟩ ⟨by omega, by omega⟩ (fun h204 => ?_) (fun h204 => ?_)
                      · -- 204: yes
                        refine g_aload_n XX d_MO_revert_227 rfl 4 rfl ?_
                        refine g_iload_n XX d_MO_revert_228 rfl 2 rfl ?_
                        refine g_put (C := R_MO) (T := T_MO) (N := 10) (ty := (.int)) (ws' := [cR b1 cA 96 f1, cR b3 cA 97 f3, cR b7 cA 96 f72, cO y 5 [.int (iI 0), .ref b1, .int (iI n), .ref b2, .ref b3, .int (iI m), .ref b4, .ref b5, .ref b6, .ref b7], cR b2 cA 96 f23, cR b6 cA 97 f62]) XX (tmw win0_MO) ty_MO ok_MO nm_MO 3 rfl rfl 2 (by decide) (tm kw_119) rfl rfl (by decide +kernel) rfl rfl (Nat.le_of_ble_eq_true rfl) rfl d_MO_revert_229 ?_
                        refine g_aload_n XX d_MO_revert_232 rfl 4 rfl ?_
                        refine g_callv (As := []) (st := []) (wr := [cR b1 cA 96 f1, cR b7 cA 96 f72, cR b6 cA 97 f62]) XX (c_M_sort l D cA y b1 b2 b3 b4 b5 b6 b7 f23 f3 X 0 n m (by first | assumption | omega) (ag_le z2_ (by omega)) (by first | assumption | omega)) (x_cw 0 XX.2.2.2.2.1 (gi kw_129) rfl rfl (tm kw_123) (tm kw_130) (tm kw_131) (tm kw_132) ⟨by decide +kernel, by decide +kernel, by decide +kernel⟩ ⟨by decide, by decide⟩) [3, 4, 1] [0, 2, 5] rfl rfl (by decide) (by decide) (by decide) 3 5 rfl rfl rfl rfl (Nat.le_of_ble_eq_true rfl) d_MO_revert_233 ⟨by decide, by decide⟩ (fun w_ hq => ?_)
                        obtain ⟨f32, rfl, u233_0⟩ := hq
                        show xG P0 l E0 rm_M_revert S0 M0 A0 B0 T0 C0 QQ 6 D vwCl AA 0 0 [cR b1 cA 96 f1, cR b7 cA 96 f72, cR b6 cA 97 f62, cO y 5 [.int (iI 0), .ref b1, .int (iI n), .ref b2, .ref b3, .int (iI m), .ref b4, .ref b5, .ref b6, .ref b7], cR b2 cA 96 f23, cR b3 cA 97 f32] 236 [(5, .int (iI k1)), (4, .int (iI gd)), (3, .int (iI n)), (2, .int (iI t)), (0, .ref y), (1, .int (iI i))] []
                        refine g_bipush (v := -4) XX d_MO_revert_236 (by decide) ?_
                        exact ret _ _ _ _ [cO y 5 [.int (iI 0), .ref b1, .int (iI n), .ref b2, .ref b3, .int (iI m), .ref b4, .ref b5, .ref b6, .ref b7], cR b1 cA 96 f1, cR b2 cA 96 f23, cR b3 cA 97 f32, cR b6 cA 97 f62, cR b7 cA 96 f72] [3, 0, 4, 5, 2, 1] d_MO_revert_238 (by decide) rfl (⟨(-4), 0, X, n, f23, f32, f62, f72, rfl, rfl, ⟨ag_le z2_ (by omega), hbX, hn, u233_0⟩, Or.inr (Or.inr ⟨by omega, ng, rfl, rfl, rfl, rfl⟩)⟩)
                      · -- 204: no
                        refine g_aload_n XX d_MO_revert_207 rfl 4 rfl ?_
                        refine g_get (C := R_MO) (T := T_MO) (N := 10) XX (tmw win0_MO) 3 rfl rfl 3 (by decide) (tm kw_111) rfl rfl d_MO_revert_208 ?_
                        refine g_iload XX d_MO_revert_211 0 rfl ?_
                        refine g_aload_n XX d_MO_revert_213 rfl 4 rfl ?_
                        refine g_get (C := R_MO) (T := T_MO) (N := 10) XX (tmw win0_MO) 3 rfl rfl 9 (by decide) (tm kw_116) rfl rfl d_MO_revert_214 ?_
                        refine g_iload XX d_MO_revert_217 0 rfl ?_
                        refine g_iald XX 2 0 rfl rfl ⟨by omega, by omega, by decide⟩ d_MO_revert_219 ?_
                        refine g_iast (ws' := [cR b1 cA 96 f1, cR b3 cA 97 f3, cR b7 cA 96 f72, cO y 5 [.int (iI 0), .ref b1, .int (iI t), .ref b2, .ref b3, .int (iI m), .ref b4, .ref b5, .ref b6, .ref b7], cR b2 cA 96 (iup f23 k1 (f72 k1)), cR b6 cA 97 f62]) XX 4 0 rfl rfl ⟨by omega, by omega, by decide⟩ rfl d_MO_revert_220 ?_
                        refine g_iinc (lv' := [(5, .int (iI (k1 + 1))), (4, .int (iI gd)), (3, .int (iI n)), (2, .int (iI t)), (0, .ref y), (1, .int (iI i))]) XX d_MO_revert_221 0 rfl (by decide) rfl ?_
                        refine g_goto (tgt := 201) XX d_MO_revert_224 (by decide) ?_
                        exact ih_201 _ (by omega) (k1 + 1) (iup f23 k1 (f72 k1)) (by omega) (ag_s z2_ (hold k1 (by omega) (by omega))) rfl
                    exact L201 _ 0 f21 (by omega) (ag_0 (by omega)) rfl
                exact L132 _ z1 0 (by omega) (rfl) rfl
              · -- 122: no
                obtain ⟨gz, gw, gx⟩ := u115_0.resolve_right (fun g => h122 g.1)
                have wc := wk_col (by omega) hck gw
                refine g_aload_n XX d_MO_revert_125 rfl 3 rfl ?_
                refine g_callv (As := []) (st := []) (wr := [cR b1 cA 96 f1, cR b7 cA 96 f72, cR b6 cA 97 f62]) XX (c_M_sort l D cA y b1 b2 b3 b4 b5 b6 b7 f21 f3 (xt (gv T i) t) 0 t m (by first | assumption | omega) (gx) (wc.2.2)) (x_cw 0 XX.2.2.2.2.1 (gi kw_129) rfl rfl (tm kw_123) (tm kw_130) (tm kw_131) (tm kw_132) ⟨by decide +kernel, by decide +kernel, by decide +kernel⟩ ⟨by decide, by decide⟩) [3, 4, 1] [0, 2, 5] rfl rfl (by decide) (by decide) (by decide) 3 5 rfl rfl rfl rfl (Nat.le_of_ble_eq_true rfl) d_MO_revert_126 ⟨by decide, by decide⟩ (fun w_ hq => ?_)
                obtain ⟨f31, rfl, u126_0⟩ := hq
                show xG P0 l E0 rm_M_revert S0 M0 A0 B0 T0 C0 QQ 6 D vwCl AA 0 0 [cR b1 cA 96 f1, cR b7 cA 96 f72, cR b6 cA 97 f62, cO y 5 [.int (iI 0), .ref b1, .int (iI t), .ref b2, .ref b3, .int (iI m), .ref b4, .ref b5, .ref b6, .ref b7], cR b2 cA 96 f21, cR b3 cA 97 f31] 129 [(4, .int (iI z1)), (3, .int (iI n)), (2, .int (iI t)), (0, .ref y), (1, .int (iI i))] []
                refine g_iconst XX d_MO_revert_129 ?_
                refine g_istore (lv' := [(5, .int (iI 0)), (4, .int (iI z1)), (3, .int (iI n)), (2, .int (iI t)), (0, .ref y), (1, .int (iI i))]) XX d_MO_revert_130 (by decide) rfl ?_
                have L132 : ∀ (k_132 : Nat) (gd : Int) (r5 : Int), (0 ≤ r5 ∧ r5 ≤ t + 1) → (gd = z1) → (t + 1 - r5).toNat = k_132 → xG P0 l E0 rm_M_revert S0 M0 A0 B0 T0 C0 QQ 6 D vwCl AA 0 0 [cR b1 cA 96 f1, cR b7 cA 96 f72, cR b6 cA 97 f62, cO y 5 [.int (iI 0), .ref b1, .int (iI t), .ref b2, .ref b3, .int (iI m), .ref b4, .ref b5, .ref b6, .ref b7], cR b2 cA 96 f21, cR b3 cA 97 f31] 132 [(5, .int (iI r5)), (4, .int (iI gd)), (3, .int (iI n)), (2, .int (iI t)), (0, .ref y), (1, .int (iI i))] [] := by
                  refine x_ind (fun k_132 ih_132 gd r5 y1 y2 hk_132 => ?_)
                  refine g_iload XX d_MO_revert_132 0 rfl ?_
                  refine g_iload_n XX d_MO_revert_134 rfl 3 rfl ?_
                  refine g_icmp_gt (tgt := 188) XX d_MO_revert_135 (by decide) ⟨by omega, by omega⟩ ⟨by omega, by omega⟩ (fun h135 => ?_) (fun h135 => ?_)
                  · -- 135: yes
                    refine g_iload XX d_MO_revert_188 1 rfl ?_
                    refine g_if_eq (tgt := 198) XX d_MO_revert_190 (by decide) ⟨by omega, by omega⟩ (fun h190 => by exfalso; omega) (fun h190 => ?_)
                    refine g_aload_n XX d_MO_revert_193 rfl 4 rfl ?_
                    refine g_get (C := R_MO) (T := T_MO) (N := 10) XX (tmw win0_MO) 3 rfl rfl 2 (by decide) (tm kw_119) rfl rfl d_MO_revert_194 ?_
                    exact ret _ _ _ _ [cO y 5 [.int (iI 0), .ref b1, .int (iI t), .ref b2, .ref b3, .int (iI m), .ref b4, .ref b5, .ref b6, .ref b7], cR b1 cA 96 f1, cR b2 cA 96 f21, cR b3 cA 97 f31, cR b6 cA 97 f62, cR b7 cA 96 f72] [3, 0, 4, 5, 2, 1] d_MO_revert_197 (by decide) rfl (⟨t, 0, xt (gv T i) t, t, f21, f31, f62, f72, rfl, rfl, ⟨gx, wc.2.2, ht, u126_0⟩, Or.inr (Or.inl ⟨by omega, gw, rfl, rfl, rfl, rfl⟩)⟩)
                  · -- 135: no
                    refine g_iload XX d_MO_revert_138 1 rfl ?_
                    refine g_if_eq (tgt := 188) XX d_MO_revert_140 (by decide) ⟨by omega, by omega⟩ (fun h140 => by exfalso; omega) (fun h140 => ?_)
                    refine g_aload_n XX d_MO_revert_143 rfl 4 rfl ?_
                    refine g_iload XX d_MO_revert_144 0 rfl ?_
                    refine g_calli (As := [.int (iI r5)]) (st := []) (wr := [cR b1 cA 96 f1, cR b7 cA 96 f72, cR b6 cA 97 f62]) XX (c_M_bef1 l D cA y b1 b2 b3 b4 b5 b6 b7 f21 f31 (xt (gv T i) t) 0 t m r5 (by first | assumption | omega) (gx) (wc.2.2) (u126_0) (by first | assumption | omega)) (x_cw 1 XX.2.2.2.2.1 (gi kw_137) rfl rfl (tm kw_123) (tm kw_138) (tm kw_139) (tm kw_140) ⟨by decide +kernel, by decide +kernel, by decide +kernel⟩ ⟨by decide, by decide⟩) [3, 4, 5] [0, 1, 2] rfl rfl (by decide) (by decide) (by decide) 3 5 rfl rfl rfl rfl (Nat.le_of_ble_eq_true rfl) d_MO_revert_146 ⟨by decide, by decide⟩ (fun r_ w_ hq => ?_)
                    obtain ⟨rfl, rfl⟩ := hq
                    show xG P0 l E0 rm_M_revert S0 M0 A0 B0 T0 C0 QQ 6 D vwCl AA 0 0 [cR b1 cA 96 f1, cR b7 cA 96 f72, cR b6 cA 97 f62, cO y 5 [.int (iI 0), .ref b1, .int (iI t), .ref b2, .ref b3, .int (iI m), .ref b4, .ref b5, .ref b6, .ref b7], cR b2 cA 96 f21, cR b3 cA 97 f31] 149 [(5, .int (iI r5)), (4, .int (iI gd)), (3, .int (iI n)), (2, .int (iI t)), (0, .ref y), (1, .int (iI i))] [.int (iI (ph (cX (xt (gv T i) t) t r5)))]
                    have ce := wc.1 r5 (by omega) (by omega)
                    have hce : ph (cX (xt (gv T i) t) t r5) = ph (gv T i r5) := by rw [ce]
                    have e1 : f62 r5 = ps (gv T i r5) := hgv r5 (by omega) (by omega)
                    have q1 := ps_c (gv T i r5)
                    have q2 := ph_c (gv T i r5)
                    have w1 := cok_val hck (j := r5) (by omega) (by omega)
                    refine g_aload_n XX d_MO_revert_149 rfl 4 rfl ?_
                    refine g_get (C := R_MO) (T := T_MO) (N := 10) XX (tmw win0_MO) 3 rfl rfl 8 (by decide) (tm kw_115) rfl rfl d_MO_revert_150 ?_
                    refine g_iload XX d_MO_revert_153 0 rfl ?_
                    refine g_iald XX 2 0 rfl rfl ⟨by omega, by omega, by decide⟩ d_MO_revert_155 ?_
                    refine g_if_ge (tgt := 165) XX d_MO_revert_156 (by decide) ⟨by omega, by omega⟩ (fun h156 => ?_) (fun h156 => ?_)
                    · -- 156: yes
                      refine g_aload_n XX d_MO_revert_165 rfl 4 rfl ?_
                      refine g_get (C := R_MO) (T := T_MO) (N := 10) XX (tmw win0_MO) 3 rfl rfl 8 (by decide) (tm kw_115) rfl rfl d_MO_revert_166 ?_
                      refine g_iload XX d_MO_revert_169 0 rfl ?_
                      refine g_iald XX 2 0 rfl rfl ⟨by omega, by omega, by decide⟩ d_MO_revert_171 ?_
                      refine g_icmp_ne (tgt := 179) XX d_MO_revert_172 (by decide) ⟨by omega, by omega⟩ ⟨by omega, by omega⟩ (fun h172 => by exfalso; omega) (fun h172 => ?_)
                      refine g_iconst XX d_MO_revert_175 ?_
                      refine g_goto (tgt := 180) XX d_MO_revert_176 (by decide) ?_
                      refine g_istore (lv' := [(4, .int (iI 1)), (5, .int (iI r5)), (3, .int (iI n)), (2, .int (iI t)), (0, .ref y), (1, .int (iI i))]) XX d_MO_revert_180 (by decide) rfl ?_
                      refine g_iinc (lv' := [(5, .int (iI (r5 + 1))), (4, .int (iI 1)), (3, .int (iI n)), (2, .int (iI t)), (0, .ref y), (1, .int (iI i))]) XX d_MO_revert_182 1 rfl (by decide) rfl ?_
                      refine g_goto (tgt := 132) XX d_MO_revert_185 (by decide) ?_
                      exact ih_132 _ (by omega) 1 (r5 + 1) (by omega) (by omega) rfl
                    · -- 156: no
                      refine g_sipush (v := 256) XX d_MO_revert_159 (by decide) ?_
                      refine g_goto (tgt := 172) XX d_MO_revert_162 (by decide) ?_
                      refine g_icmp_ne (tgt := 179) XX d_MO_revert_172 (by decide) ⟨by omega, by omega⟩ ⟨by omega, by omega⟩ (fun h172 => by exfalso; omega) (fun h172 => ?_)
                      refine g_iconst XX d_MO_revert_175 ?_
                      refine g_goto (tgt := 180) XX d_MO_revert_176 (by decide) ?_
                      refine g_istore (lv' := [(4, .int (iI 1)), (5, .int (iI r5)), (3, .int (iI n)), (2, .int (iI t)), (0, .ref y), (1, .int (iI i))]) XX d_MO_revert_180 (by decide) rfl ?_
                      refine g_iinc (lv' := [(5, .int (iI (r5 + 1))), (4, .int (iI 1)), (3, .int (iI n)), (2, .int (iI t)), (0, .ref y), (1, .int (iI i))]) XX d_MO_revert_182 1 rfl (by decide) rfl ?_
                      refine g_goto (tgt := 132) XX d_MO_revert_185 (by decide) ?_
                      exact ih_132 _ (by omega) 1 (r5 + 1) (by omega) (by omega) rfl
                exact L132 _ z1 0 (by omega) (rfl) rfl
            · -- 85: no
              refine g_aload_n XX d_MO_revert_88 rfl 3 rfl ?_
              refine g_get (C := R_MO) (T := T_MO) (N := 10) XX (tmw win0_MO) 0 rfl rfl 9 (by decide) (tm kw_116) rfl rfl d_MO_revert_89 ?_
              refine g_iload XX d_MO_revert_92 0 rfl ?_
              refine g_aload_n XX d_MO_revert_94 rfl 3 rfl ?_
              refine g_get (C := R_MO) (T := T_MO) (N := 10) XX (tmw win0_MO) 0 rfl rfl 3 (by decide) (tm kw_111) rfl rfl d_MO_revert_95 ?_
              refine g_iload XX d_MO_revert_98 0 rfl ?_
              refine g_iald XX 2 0 rfl rfl ⟨by omega, by omega, by decide⟩ d_MO_revert_100 ?_
              refine g_iast (ws' := [cO y 5 [.int (iI 0), .ref b1, .int (iI n), .ref b2, .ref b3, .int (iI m), .ref b4, .ref b5, .ref b6, .ref b7], cR b1 cA 96 f1, cR b2 cA 96 f2, cR b3 cA 97 f3, cR b6 cA 97 f62, cR b7 cA 96 (iup f72 k0 (f2 k0))]) XX 5 0 rfl rfl ⟨by omega, by omega, by decide⟩ rfl d_MO_revert_101 ?_
              refine g_iinc (lv' := [(4, .int (iI (k0 + 1))), (3, .int (iI n)), (2, .int (iI t)), (0, .ref y), (1, .int (iI i))]) XX d_MO_revert_102 0 rfl (by decide) rfl ?_
              refine g_goto (tgt := 82) XX d_MO_revert_105 (by decide) ?_
              exact ih_82 _ (by omega) (k0 + 1) (iup f72 k0 (f2 k0)) (by omega) (ag_s g2 (hfX k0 (by omega) (by omega))) rfl
          exact L82 _ 0 f7 (by omega) (ag_0 (by omega)) rfl
        · -- 23: no
          refine g_aload_n XX d_MO_revert_26 rfl 2 rfl ?_
          refine g_get (C := R_MO) (T := T_MO) (N := 10) XX (tmw win0_MO) 0 rfl rfl 8 (by decide) (tm kw_115) rfl rfl d_MO_revert_27 ?_
          refine g_iload_n XX d_MO_revert_30 rfl 0 rfl ?_
          refine g_iload_n XX d_MO_revert_31 rfl 0 rfl ?_
          refine g_iload_n XX d_MO_revert_32 rfl 3 rfl ?_
          refine g_icmp_ge (tgt := 45) XX d_MO_revert_33 (by decide) ⟨by omega, by omega⟩ ⟨by omega, by omega⟩ (fun h33 => ?_) (fun h33 => ?_)
          · -- 33: yes
            refine g_iload_n XX d_MO_revert_45 rfl 0 rfl ?_
            refine g_iload_n XX d_MO_revert_46 rfl 3 rfl ?_
            refine g_icmp_ne (tgt := 54) XX d_MO_revert_47 (by decide) ⟨by omega, by omega⟩ ⟨by omega, by omega⟩ (fun h47 => ?_) (fun h47 => ?_)
            · -- 47: yes
              refine g_aload_n XX d_MO_revert_54 rfl 2 rfl ?_
              refine g_get (C := R_MO) (T := T_MO) (N := 10) XX (tmw win0_MO) 0 rfl rfl 1 (by decide) (tm kw_110) rfl rfl d_MO_revert_55 ?_
              refine g_iload_n XX d_MO_revert_58 rfl 0 rfl ?_
              refine g_iconst XX d_MO_revert_59 ?_
              refine g_isub XX d_MO_revert_60 ?_
              refine g_iald XX 1 0 rfl rfl ⟨by omega, by omega, by decide⟩ d_MO_revert_61 ?_
              refine g_iast (ws' := [cO y 5 [.int (iI t), .ref b1, .int (iI n), .ref b2, .ref b3, .int (iI m), .ref b4, .ref b5, .ref b6, .ref b7], cR b1 cA 96 f1, cR b2 cA 96 f2, cR b3 cA 97 f3, cR b6 cA 97 (iup f62 r0 (f1 (r0 - 1))), cR b7 cA 96 f7]) XX 4 0 rfl rfl ⟨by omega, by omega, by decide⟩ rfl d_MO_revert_62 ?_
              refine g_iinc (lv' := [(3, .int (iI (r0 + 1))), (2, .int (iI t)), (0, .ref y), (1, .int (iI i))]) XX d_MO_revert_63 0 rfl (by decide) rfl ?_
              refine g_goto (tgt := 21) XX d_MO_revert_66 (by decide) ?_
              exact ih_21 _ (by omega) (r0 + 1) (iup f62 r0 (f1 (r0 - 1))) (by omega) (ag_s h2 (by show _ = ps (gv T i r0); first | (rw [hfT r0 (by omega) (by omega)]; exact gvp1 hbT (by omega) (by omega) (by omega)) | exact gvp2 (by omega) | (rw [hfT (r0 - 1) (by omega) (by omega)]; exact gvp3 hbT (by omega) (by omega) (by omega)))) rfl
            · -- 47: no
              refine g_iconst XX d_MO_revert_50 ?_
              refine g_goto (tgt := 62) XX d_MO_revert_51 (by decide) ?_
              refine g_iast (ws' := [cO y 5 [.int (iI t), .ref b1, .int (iI n), .ref b2, .ref b3, .int (iI m), .ref b4, .ref b5, .ref b6, .ref b7], cR b1 cA 96 f1, cR b2 cA 96 f2, cR b3 cA 97 f3, cR b6 cA 97 (iup f62 r0 (-1)), cR b7 cA 96 f7]) XX 4 0 rfl rfl ⟨by omega, by omega, by decide⟩ rfl d_MO_revert_62 ?_
              refine g_iinc (lv' := [(3, .int (iI (r0 + 1))), (2, .int (iI t)), (0, .ref y), (1, .int (iI i))]) XX d_MO_revert_63 0 rfl (by decide) rfl ?_
              refine g_goto (tgt := 21) XX d_MO_revert_66 (by decide) ?_
              exact ih_21 _ (by omega) (r0 + 1) (iup f62 r0 (-1)) (by omega) (ag_s h2 (by show _ = ps (gv T i r0); first | (rw [hfT r0 (by omega) (by omega)]; exact gvp1 hbT (by omega) (by omega) (by omega)) | exact gvp2 (by omega) | (rw [hfT (r0 - 1) (by omega) (by omega)]; exact gvp3 hbT (by omega) (by omega) (by omega)))) rfl
          · -- 33: no
            refine g_aload_n XX d_MO_revert_36 rfl 2 rfl ?_
            refine g_get (C := R_MO) (T := T_MO) (N := 10) XX (tmw win0_MO) 0 rfl rfl 1 (by decide) (tm kw_110) rfl rfl d_MO_revert_37 ?_
            refine g_iload_n XX d_MO_revert_40 rfl 0 rfl ?_
            refine g_iald XX 1 0 rfl rfl ⟨by omega, by omega, by decide⟩ d_MO_revert_41 ?_
            refine g_goto (tgt := 62) XX d_MO_revert_42 (by decide) ?_
            refine g_iast (ws' := [cO y 5 [.int (iI t), .ref b1, .int (iI n), .ref b2, .ref b3, .int (iI m), .ref b4, .ref b5, .ref b6, .ref b7], cR b1 cA 96 f1, cR b2 cA 96 f2, cR b3 cA 97 f3, cR b6 cA 97 (iup f62 r0 (f1 r0)), cR b7 cA 96 f7]) XX 4 0 rfl rfl ⟨by omega, by omega, by decide⟩ rfl d_MO_revert_62 ?_
            refine g_iinc (lv' := [(3, .int (iI (r0 + 1))), (2, .int (iI t)), (0, .ref y), (1, .int (iI i))]) XX d_MO_revert_63 0 rfl (by decide) rfl ?_
            refine g_goto (tgt := 21) XX d_MO_revert_66 (by decide) ?_
            exact ih_21 _ (by omega) (r0 + 1) (iup f62 r0 (f1 r0)) (by omega) (ag_s h2 (by show _ = ps (gv T i r0); first | (rw [hfT r0 (by omega) (by omega)]; exact gvp1 hbT (by omega) (by omega) (by omega)) | exact gvp2 (by omega) | (rw [hfT (r0 - 1) (by omega) (by omega)]; exact gvp3 hbT (by omega) (by omega) (by omega)))) rfl
      exact L21 _ 0 f6 (by omega) (ag_0 (by omega)) rfl
    · -- 9: no
      refine g_iconst XX d_MO_revert_12 ?_
      exact ret _ _ _ _ [cO y 5 [.int (iI t), .ref b1, .int (iI n), .ref b2, .ref b3, .int (iI m), .ref b4, .ref b5, .ref b6, .ref b7], cR b1 cA 96 f1, cR b2 cA 96 f2, cR b3 cA 97 f3, cR b6 cA 97 f6, cR b7 cA 96 f7] [0, 1, 2, 3, 4, 5] d_MO_revert_13 (by decide) rfl (⟨(-1), t, X, n, f2, f3, f6, f7, rfl, rfl, ⟨hfX, hbX, hn, hfO⟩, Or.inl ⟨by omega, rfl, rfl, rfl, rfl⟩⟩)
