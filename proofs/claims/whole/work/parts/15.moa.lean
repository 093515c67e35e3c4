abbrev rm_M_type : Room := { frames := 0, cells := 0, slots := 0, locals := 0 }
set_option maxHeartbeats 4000000 in
set_option maxRecDepth 100000 in
theorem c_M_type (l : Launch) (D : va_G) (cA : ClassId) (y b1 b2 b3 b4 b5 b6 b7 : Nat) (f1 T : Int → Int) (bits : Int64) (t n m i : Int) (ht : 0 ≤ t ∧ t ≤ 96) (hfT : ag f1 T t) (hi : -2147483648 ≤ i ∧ i < 2147483648) : xM l y_MO_type w_MO_type rm_M_type D vwCl [(cA, .int)] [.ref y, .long bits, .int (iI i)] [cO y 5 [.int (iI t), .ref b1, .int (iI n), .ref b2, .ref b3, .int (iI m), .ref b4, .ref b5, .ref b6, .ref b7], cR b1 cA 96 f1] (fun r w => ∃ (f1' : Int → Int), r = iI (tyR t i) ∧ w = [cO y 5 [.int (iI (tyN t i)), .ref b1, .int (iI n), .ref b2, .ref b3, .int (iI m), .ref b4, .ref b5, .ref b6, .ref b7], cR b1 cA 96 f1'] ∧ (ag f1' (tyG T t bits i) (tyN t i))) 0 0 := by
  refine xM.ofI (by decide) rfl (Nat.le_of_ble_eq_true rfl) ?_
  intro P0 E0 S0 M0 A0 B0 T0 C0 AA QQ XX hnm ret
  refine g_iload_n XX d_MO_type_0 rfl 2 rfl ?_
  refine g_iconst XX d_MO_type_1 ?_
  refine g_icmp_lt (tgt := 11) XX d_MO_type_2 (by decide) ⟨by omega, by omega⟩ ⟨by omega, by omega⟩ (fun h2 => ?_) (fun h2 => ?_)
  · -- 2: yes
    have hz := ty_bad (t := t) (i := i) (by omega)
    refine g_iconst XX d_MO_type_11 ?_
    exact ret _ _ _ _ [cO y 5 [.int (iI t), .ref b1, .int (iI n), .ref b2, .ref b3, .int (iI m), .ref b4, .ref b5, .ref b6, .ref b7], cR b1 cA 96 f1] [0, 1] d_MO_type_12 (by decide) rfl (⟨f1, by rw [hz.1], by rw [hz.2], by rw [hz.2]; exact tyG_ag hfT⟩)
  · -- 2: no
    refine g_iload_n XX d_MO_type_5 rfl 2 rfl ?_
    refine g_bipush (v := 8) XX d_MO_type_6 (by decide) ?_
    refine g_icmp_le (tgt := 13) XX d_MO_type_8 (by decide) ⟨by omega, by omega⟩ ⟨by omega, by omega⟩ (fun h8 => ?_) (fun h8 => ?_)
    · -- 8: yes
      refine g_aload_n XX d_MO_type_13 rfl 0 rfl ?_
      refine g_get (C := R_MO) (T := T_MO) (N := 10) XX (tmw win0_MO) 0 rfl rfl 0 (by decide) (tm kw_117) rfl rfl d_MO_type_14 ?_
      refine g_iload_n XX d_MO_type_17 rfl 2 rfl ?_
      refine g_iadd XX d_MO_type_18 ?_
      refine g_bipush (v := 96) XX d_MO_type_19 (by decide) ?_
      refine g_icmp_le (tgt := 27) XX d_MO_type_21 (by decide) ⟨by omega, by omega⟩ ⟨by omega, by omega⟩ (fun h21 => ?_) (fun h21 => ?_)
      · -- 21: yes
        have hz := ty_ok (t := t) (i := i) (by omega) (by omega)
        refine g_iload_n XX d_MO_type_27 rfl 2 rfl ?_
        refine g_iconst XX d_MO_type_28 ?_
        refine g_isub XX d_MO_type_29 ?_
        refine g_istore (lv' := [(4, .int (iI (i - 1))), (0, .ref y), (1, .long bits), (3, .int (iI i))]) XX d_MO_type_30 (by decide) rfl ?_
        have L32 : ∀ (k_32 : Nat) (k0 : Int) (L0 : Int) (f12 : Int → Int), (-1 ≤ k0 ∧ k0 ≤ i - 1) → (L0 = t + (i - 1 - k0)) → (ag f12 (tyG T t bits i) L0) → (k0 + 1).toNat = k_32 → xG P0 l E0 rm_M_type S0 M0 A0 B0 T0 C0 QQ 5 D vwCl AA 0 0 [cO y 5 [.int (iI L0), .ref b1, .int (iI n), .ref b2, .ref b3, .int (iI m), .ref b4, .ref b5, .ref b6, .ref b7], cR b1 cA 96 f12] 32 [(4, .int (iI k0)), (0, .ref y), (1, .long bits), (3, .int (iI i))] [] := by
          refine x_ind (fun k_32 ih_32 k0 L0 f12 h1 h2 h3 hk_32 => ?_)
          refine g_iload XX d_MO_type_32 0 rfl ?_
          refine g_if_lt (tgt := 74) XX d_MO_type_34 (by decide) ⟨by omega, by omega⟩ (fun h34 => ?_) (fun h34 => ?_)
          · -- 34: yes
            refine g_aload_n XX d_MO_type_74 rfl 1 rfl ?_
            refine g_get (C := R_MO) (T := T_MO) (N := 10) XX (tmw win0_MO) 0 rfl rfl 0 (by decide) (tm kw_117) rfl rfl d_MO_type_75 ?_
            exact ret _ _ _ _ [cO y 5 [.int (iI L0), .ref b1, .int (iI n), .ref b2, .ref b3, .int (iI m), .ref b4, .ref b5, .ref b6, .ref b7], cR b1 cA 96 f12] [0, 1] d_MO_type_78 (by decide) rfl (⟨f12, by rw [hz.1, show L0 = t + i by omega], by rw [hz.2, show L0 = t + i by omega], by rw [hz.2, show t + i = L0 by omega]; exact h3⟩)
          · -- 34: no
            refine g_aload_n XX d_MO_type_37 rfl 1 rfl ?_
            refine g_get (C := R_MO) (T := T_MO) (N := 10) XX (tmw win0_MO) 0 rfl rfl 1 (by decide) (tm kw_110) rfl rfl d_MO_type_38 ?_
            refine g_aload_n XX d_MO_type_41 rfl 1 rfl ?_
            refine g_get (C := R_MO) (T := T_MO) (N := 10) XX (tmw win0_MO) 0 rfl rfl 0 (by decide) (tm kw_117) rfl rfl d_MO_type_42 ?_
            refine g_lload_n XX d_MO_type_45 rfl 2 rfl ?_
            refine g_bipush (v := 8) XX d_MO_type_46 (by decide) ?_
            refine g_iload XX d_MO_type_48 0 rfl ?_
            refine g_imul XX d_MO_type_50 ?_
            refine g_lshr XX d_MO_type_51 rfl ?_
            refine g_ldc2 (v := 255) XX (tm kw_118) d_MO_type_52 ?_
            refine g_land XX d_MO_type_55 rfl ?_
            refine g_l2i XX d_MO_type_56 (tb_mod bits k0 (by omega)) ?_
            refine g_iast (ws' := [cO y 5 [.int (iI L0), .ref b1, .int (iI n), .ref b2, .ref b3, .int (iI m), .ref b4, .ref b5, .ref b6, .ref b7], cR b1 cA 96 (iup f12 L0 (tb bits k0))]) XX 1 0 rfl rfl ⟨by omega, by omega, by decide⟩ rfl d_MO_type_57 ?_
            refine g_aload_n XX d_MO_type_58 rfl 1 rfl ?_
            refine g_dup XX d_MO_type_59 rfl ?_
            refine g_get (C := R_MO) (T := T_MO) (N := 10) XX (tmw win0_MO) 0 rfl rfl 0 (by decide) (tm kw_117) rfl rfl d_MO_type_60 ?_
            refine g_iconst XX d_MO_type_63 ?_
            refine g_iadd XX d_MO_type_64 ?_
            refine g_put (C := R_MO) (T := T_MO) (N := 10) (ty := (.int)) (ws' := [cO y 5 [.int (iI (L0 + 1)), .ref b1, .int (iI n), .ref b2, .ref b3, .int (iI m), .ref b4, .ref b5, .ref b6, .ref b7], cR b1 cA 96 (iup f12 L0 (tb bits k0))]) XX (tmw win0_MO) ty_MO ok_MO nm_MO 0 rfl rfl 0 (by decide) (tm kw_117) rfl rfl (by decide +kernel) rfl rfl (Nat.le_of_ble_eq_true rfl) rfl d_MO_type_65 ?_
            refine g_iinc (lv' := [(4, .int (iI (k0 + (-1)))), (0, .ref y), (1, .long bits), (3, .int (iI i))]) XX d_MO_type_68 0 rfl (by decide) rfl ?_
            refine g_goto (tgt := 32) XX d_MO_type_71 (by decide) ?_
            exact ih_32 _ (by omega) (k0 + (-1)) (L0 + 1) (iup f12 L0 (tb bits k0)) (by omega) (by omega) (ag_s h3 (by simp only [tyG, if_neg (show ¬ L0 < t by omega)]; rw [show i - 1 - (L0 - t) = k0 by omega])) rfl
        exact L32 _ (i - 1) t f1 (by omega) (by omega) (tyG_ag hfT) rfl
      · -- 21: no
        have hz := ty_full (t := t) (i := i) (by omega) (by omega)
        refine g_bipush (v := -3) XX d_MO_type_24 (by decide) ?_
        exact ret _ _ _ _ [cO y 5 [.int (iI t), .ref b1, .int (iI n), .ref b2, .ref b3, .int (iI m), .ref b4, .ref b5, .ref b6, .ref b7], cR b1 cA 96 f1] [0, 1] d_MO_type_26 (by decide) rfl (⟨f1, by rw [hz.1], by rw [hz.2], by rw [hz.2]; exact tyG_ag hfT⟩)
    · -- 8: no
      have hz := ty_bad (t := t) (i := i) (by omega)
      refine g_iconst XX d_MO_type_11 ?_
      exact ret _ _ _ _ [cO y 5 [.int (iI t), .ref b1, .int (iI n), .ref b2, .ref b3, .int (iI m), .ref b4, .ref b5, .ref b6, .ref b7], cR b1 cA 96 f1] [0, 1] d_MO_type_12 (by decide) rfl (⟨f1, by rw [hz.1], by rw [hz.2], by rw [hz.2]; exact tyG_ag hfT⟩)
abbrev rm_M_alike : Room := { frames := 0, cells := 0, slots := 0, locals := 0 }
set_option maxHeartbeats 4000000 in
set_option maxRecDepth 100000 in
theorem c_M_alike (l : Launch) (D : va_G) (cA : ClassId) (y b1 b2 b3 b4 b5 b6 b7 : Nat) (f2 X : Int → Int) (t n m i j : Int) (hn : 0 ≤ n ∧ n ≤ 96) (hfX : ag f2 X n) (hbX : bt8 X n) (hij : 0 ≤ i ∧ i ≤ n ∧ 0 ≤ j ∧ j ≤ n) : xM l y_MO_alike w_MO_alike rm_M_alike D vwCl [(cA, .int)] [.ref y, .int (iI i), .int (iI j)] [cO y 5 [.int (iI t), .ref b1, .int (iI n), .ref b2, .ref b3, .int (iI m), .ref b4, .ref b5, .ref b6, .ref b7], cR b2 cA 96 f2] (fun r w => r = iI (al X n X n i j) ∧ w = [cO y 5 [.int (iI t), .ref b1, .int (iI n), .ref b2, .ref b3, .int (iI m), .ref b4, .ref b5, .ref b6, .ref b7], cR b2 cA 96 f2]) 0 0 := by
  refine xM.ofI (by decide) rfl (Nat.le_of_ble_eq_true rfl) ?_
  intro P0 E0 S0 M0 A0 B0 T0 C0 AA QQ XX hnm ret
  refine g_iconst XX d_MO_alike_0 ?_
  refine g_istore_n (lv' := [(3, .int (iI 0)), (0, .ref y), (1, .int (iI i)), (2, .int (iI j))]) XX d_MO_alike_1 rfl (by decide) rfl ?_
  have L2 : ∀ (k_2 : Nat) (cc : Int), (0 ≤ cc ∧ i + cc ≤ n ∧ j + cc ≤ n) → (∀ j0, 0 ≤ j0 → j0 < cc → X (i + j0) = X (j + j0)) → (n - i - cc).toNat = k_2 → xG P0 l E0 rm_M_alike S0 M0 A0 B0 T0 C0 QQ 4 D vwCl AA 0 0 [cO y 5 [.int (iI t), .ref b1, .int (iI n), .ref b2, .ref b3, .int (iI m), .ref b4, .ref b5, .ref b6, .ref b7], cR b2 cA 96 f2] 2 [(3, .int (iI cc)), (0, .ref y), (1, .int (iI i)), (2, .int (iI j))] [] := by
    refine x_ind (fun k_2 ih_2 cc hc he hk_2 => ?_)
    refine g_iload_n XX d_MO_alike_2 rfl 2 rfl ?_
    refine g_iload_n XX d_MO_alike_3 rfl 0 rfl ?_
    refine g_iadd XX d_MO_alike_4 ?_
    refine g_aload_n XX d_MO_alike_5 rfl 1 rfl ?_
    refine g_get (C := R_MO) (T := T_MO) (N := 10) XX (tmw win0_MO) 0 rfl rfl 2 (by decide) (tm kw_119) rfl rfl d_MO_alike_6 ?_
    refine g_icmp_ge (tgt := 47) XX d_MO_alike_9 (by decide) ⟨by omega, by omega⟩ ⟨by omega, by omega⟩ (fun h9 => ?_) (fun h9 => ?_)
    · -- 9: yes
      refine g_iload_n XX d_MO_alike_47 rfl 0 rfl ?_
      exact ret _ _ _ _ [cO y 5 [.int (iI t), .ref b1, .int (iI n), .ref b2, .ref b3, .int (iI m), .ref b4, .ref b5, .ref b6, .ref b7], cR b2 cA 96 f2] [0, 1] d_MO_alike_48 (by decide) rfl (⟨congrArg iI (al_eq (show isAl X n X n i j cc from ⟨by omega, by omega, by omega, he, by omega⟩)).symm, rfl⟩)
    · -- 9: no
      refine g_iload_n XX d_MO_alike_12 rfl 3 rfl ?_
      refine g_iload_n XX d_MO_alike_13 rfl 0 rfl ?_
      refine g_iadd XX d_MO_alike_14 ?_
      refine g_aload_n XX d_MO_alike_15 rfl 1 rfl ?_
      refine g_get (C := R_MO) (T := T_MO) (N := 10) XX (tmw win0_MO) 0 rfl rfl 2 (by decide) (tm kw_119) rfl rfl d_MO_alike_16 ?_
      refine g_icmp_ge (tgt := 47) XX d_MO_alike_19 (by decide) ⟨by omega, by omega⟩ ⟨by omega, by omega⟩ (fun h19 => ?_) (fun h19 => ?_)
      · -- 19: yes
        refine g_iload_n XX d_MO_alike_47 rfl 0 rfl ?_
        exact ret _ _ _ _ [cO y 5 [.int (iI t), .ref b1, .int (iI n), .ref b2, .ref b3, .int (iI m), .ref b4, .ref b5, .ref b6, .ref b7], cR b2 cA 96 f2] [0, 1] d_MO_alike_48 (by decide) rfl (⟨congrArg iI (al_eq (show isAl X n X n i j cc from ⟨by omega, by omega, by omega, he, by omega⟩)).symm, rfl⟩)
      · -- 19: no
        refine g_aload_n XX d_MO_alike_22 rfl 1 rfl ?_
        refine g_get (C := R_MO) (T := T_MO) (N := 10) XX (tmw win0_MO) 0 rfl rfl 3 (by decide) (tm kw_111) rfl rfl d_MO_alike_23 ?_
        refine g_iload_n XX d_MO_alike_26 rfl 2 rfl ?_
        refine g_iload_n XX d_MO_alike_27 rfl 0 rfl ?_
        refine g_iadd XX d_MO_alike_28 ?_
        refine g_iald XX 1 0 rfl rfl ⟨by omega, by omega, by decide⟩ d_MO_alike_29 ?_
        refine g_aload_n XX d_MO_alike_30 rfl 1 rfl ?_
        refine g_get (C := R_MO) (T := T_MO) (N := 10) XX (tmw win0_MO) 0 rfl rfl 3 (by decide) (tm kw_111) rfl rfl d_MO_alike_31 ?_
        refine g_iload_n XX d_MO_alike_34 rfl 3 rfl ?_
        refine g_iload_n XX d_MO_alike_35 rfl 0 rfl ?_
        refine g_iadd XX d_MO_alike_36 ?_
        refine g_iald XX 1 0 rfl rfl ⟨by omega, by omega, by decide⟩ d_MO_alike_37 ?_
        have e1 := hfX (i + cc) (by omega) (by omega)
        have e2 := hfX (j + cc) (by omega) (by omega)
        have bb1 := hbX (i + cc) (by omega) (by omega)
        have bb2 := hbX (j + cc) (by omega) (by omega)
        refine g_icmp_ne (tgt := 47) XX d_MO_alike_38 (by decide) ⟨by omega, by omega⟩ ⟨by omega, by omega⟩ (fun h38 => ?_) (fun h38 => ?_)
        · -- 38: yes
          refine g_iload_n XX d_MO_alike_47 rfl 0 rfl ?_
          exact ret _ _ _ _ [cO y 5 [.int (iI t), .ref b1, .int (iI n), .ref b2, .ref b3, .int (iI m), .ref b4, .ref b5, .ref b6, .ref b7], cR b2 cA 96 f2] [0, 1] d_MO_alike_48 (by decide) rfl (⟨congrArg iI (al_eq (show isAl X n X n i j cc from ⟨by omega, by omega, by omega, he, by omega⟩)).symm, rfl⟩)
        · -- 38: no
          refine g_iinc (lv' := [(3, .int (iI (cc + 1))), (0, .ref y), (1, .int (iI i)), (2, .int (iI j))]) XX d_MO_alike_41 0 rfl (by decide) rfl ?_
          refine g_goto (tgt := 2) XX d_MO_alike_44 (by decide) ?_
          exact ih_2 _ (by omega) (cc + 1) (by omega) (all_s he (by show X (i + cc) = X (j + cc); omega)) rfl
  exact L2 _ 0 (by omega) (fun j0 a b => by omega) rfl
abbrev rm_M_isBefore : Room := { frames := 1, cells := 0, slots := 0, locals := 23 }
set_option maxHeartbeats 4000000 in
set_option maxRecDepth 100000 in
theorem c_M_isBefore (l : Launch) (D : va_G) (cA : ClassId) (y b1 b2 b3 b4 b5 b6 b7 : Nat) (f2 X : Int → Int) (t n m i j : Int) (hn : 0 ≤ n ∧ n ≤ 96) (hfX : ag f2 X n) (hbX : bt8 X n) (hij : 0 ≤ i ∧ i ≤ n ∧ 0 ≤ j ∧ j ≤ n) : xM l y_MO_isBefore w_MO_isBefore rm_M_isBefore D vwCl [(cA, .int)] [.ref y, .int (iI i), .int (iI j)] [cO y 5 [.int (iI t), .ref b1, .int (iI n), .ref b2, .ref b3, .int (iI m), .ref b4, .ref b5, .ref b6, .ref b7], cR b2 cA 96 f2] (fun r w => r = iI (if lb X n i j then 1 else 0) ∧ w = [cO y 5 [.int (iI t), .ref b1, .int (iI n), .ref b2, .ref b3, .int (iI m), .ref b4, .ref b5, .ref b6, .ref b7], cR b2 cA 96 f2]) 0 0 := by
  refine xM.ofZ (by decide) rfl (Nat.le_of_ble_eq_true rfl) ?_
  intro P0 E0 S0 M0 A0 B0 T0 C0 AA QQ XX hnm ret
  refine g_aload_n XX d_MO_isBefore_0 rfl 0 rfl ?_
  refine g_iload_n XX d_MO_isBefore_1 rfl 1 rfl ?_
  refine g_iload_n XX d_MO_isBefore_2 rfl 2 rfl ?_
  refine g_calli (As := [.int (iI i), .int (iI j)]) (st := []) (wr := []) XX (c_M_alike l D cA y b1 b2 b3 b4 b5 b6 b7 f2 X t n m i j (by first | assumption | omega) (by first | assumption | omega) (by first | assumption | omega) (by first | assumption | omega)) (x_cw 2 XX.2.2.2.2.1 (gi kw_120) rfl rfl (tm kw_123) (tm kw_121) (tm kw_122) (tm kw_124) ⟨by decide +kernel, by decide +kernel, by decide +kernel⟩ ⟨by decide, by decide⟩) [0, 1] [] rfl rfl (by decide) (by decide) (by decide) 0 5 rfl rfl rfl rfl (Nat.le_of_ble_eq_true rfl) d_MO_isBefore_3 ⟨by decide, by decide⟩ (fun r_ w_ hq => ?_)
  obtain ⟨rfl, rfl⟩ := hq
  show xG P0 l E0 rm_M_isBefore S0 M0 A0 B0 T0 C0 QQ 4 D vwCl AA 0 0 [cO y 5 [.int (iI t), .ref b1, .int (iI n), .ref b2, .ref b3, .int (iI m), .ref b4, .ref b5, .ref b6, .ref b7], cR b2 cA 96 f2] 6 [(0, .ref y), (1, .int (iI i)), (2, .int (iI j))] [.int (iI (al X n X n i j))]
  refine g_istore_n (lv' := [(3, .int (iI (al X n X n i j))), (0, .ref y), (1, .int (iI i)), (2, .int (iI j))]) XX d_MO_isBefore_6 rfl (by decide) rfl ?_
  have g := al_rng (f := X) (n := n) (g := X) (m := n) (p := i) (q := j) (by omega) (by omega)
  refine g_iload_n XX d_MO_isBefore_7 rfl 2 rfl ?_
  refine g_iload_n XX d_MO_isBefore_8 rfl 0 rfl ?_
  refine g_iadd XX d_MO_isBefore_9 ?_
  refine g_aload_n XX d_MO_isBefore_10 rfl 1 rfl ?_
  refine g_get (C := R_MO) (T := T_MO) (N := 10) XX (tmw win0_MO) 0 rfl rfl 2 (by decide) (tm kw_119) rfl rfl d_MO_isBefore_11 ?_
  refine g_icmp_ne (tgt := 35) XX d_MO_isBefore_14 (by decide) ⟨by omega, by omega⟩ ⟨by omega, by omega⟩ (fun h14 => ?_) (fun h14 => ?_)
  · -- 14: yes
    refine g_iload_n XX d_MO_isBefore_35 rfl 3 rfl ?_
    refine g_iload_n XX d_MO_isBefore_36 rfl 0 rfl ?_
    refine g_iadd XX d_MO_isBefore_37 ?_
    refine g_aload_n XX d_MO_isBefore_38 rfl 1 rfl ?_
    refine g_get (C := R_MO) (T := T_MO) (N := 10) XX (tmw win0_MO) 0 rfl rfl 2 (by decide) (tm kw_119) rfl rfl d_MO_isBefore_39 ?_
    refine g_icmp_ge (tgt := 68) XX d_MO_isBefore_42 (by decide) ⟨by omega, by omega⟩ ⟨by omega, by omega⟩ (fun h42 => ?_) (fun h42 => ?_)
    · -- 42: yes
      have hz : lb X n i j = false := by simp only [lb, decide_eq_false_iff_not]; omega
      refine g_iconst XX d_MO_isBefore_68 ?_
      exact ret _ _ _ _ [cO y 5 [.int (iI t), .ref b1, .int (iI n), .ref b2, .ref b3, .int (iI m), .ref b4, .ref b5, .ref b6, .ref b7], cR b2 cA 96 f2] [0, 1] (by first | exact Or.inl rfl | exact Or.inr rfl) d_MO_isBefore_69 (by decide) rfl (⟨by rw [hz]; rfl, rfl⟩)
    · -- 42: no
      refine g_aload_n XX d_MO_isBefore_45 rfl 1 rfl ?_
      refine g_get (C := R_MO) (T := T_MO) (N := 10) XX (tmw win0_MO) 0 rfl rfl 3 (by decide) (tm kw_111) rfl rfl d_MO_isBefore_46 ?_
      refine g_iload_n XX d_MO_isBefore_49 rfl 2 rfl ?_
      refine g_iload_n XX d_MO_isBefore_50 rfl 0 rfl ?_
      refine g_iadd XX d_MO_isBefore_51 ?_
      refine g_iald XX 1 0 rfl rfl ⟨by omega, by omega, by decide⟩ d_MO_isBefore_52 ?_
      refine g_aload_n XX d_MO_isBefore_53 rfl 1 rfl ?_
      refine g_get (C := R_MO) (T := T_MO) (N := 10) XX (tmw win0_MO) 0 rfl rfl 3 (by decide) (tm kw_111) rfl rfl d_MO_isBefore_54 ?_
      refine g_iload_n XX d_MO_isBefore_57 rfl 3 rfl ?_
      refine g_iload_n XX d_MO_isBefore_58 rfl 0 rfl ?_
      refine g_iadd XX d_MO_isBefore_59 ?_
      refine g_iald XX 1 0 rfl rfl ⟨by omega, by omega, by decide⟩ d_MO_isBefore_60 ?_
      have e1 := hfX (i + al X n X n i j) (by omega) (by omega)
      have e2 := hfX (j + al X n X n i j) (by omega) (by omega)
      have bb1 := hbX (i + al X n X n i j) (by omega) (by omega)
      have bb2 := hbX (j + al X n X n i j) (by omega) (by omega)
      refine g_icmp_ge (tgt := 68) XX d_MO_isBefore_61 (by decide) ⟨by omega, by omega⟩ ⟨by omega, by omega⟩ (fun h61 => ?_) (fun h61 => ?_)
      · -- 61: yes
        have hz : lb X n i j = false := by simp only [lb, decide_eq_false_iff_not]; omega
        refine g_iconst XX d_MO_isBefore_68 ?_
        exact ret _ _ _ _ [cO y 5 [.int (iI t), .ref b1, .int (iI n), .ref b2, .ref b3, .int (iI m), .ref b4, .ref b5, .ref b6, .ref b7], cR b2 cA 96 f2] [0, 1] (by first | exact Or.inl rfl | exact Or.inr rfl) d_MO_isBefore_69 (by decide) rfl (⟨by rw [hz]; rfl, rfl⟩)
      · -- 61: no
        have hz : lb X n i j = true := by simp only [lb, decide_eq_true_eq]; omega
        refine g_iconst XX d_MO_isBefore_64 ?_
        refine g_goto (tgt := 69) XX d_MO_isBefore_65 (by decide) ?_
        exact ret _ _ _ _ [cO y 5 [.int (iI t), .ref b1, .int (iI n), .ref b2, .ref b3, .int (iI m), .ref b4, .ref b5, .ref b6, .ref b7], cR b2 cA 96 f2] [0, 1] (by first | exact Or.inl rfl | exact Or.inr rfl) d_MO_isBefore_69 (by decide) rfl (⟨by rw [hz]; rfl, rfl⟩)
  · -- 14: no
    refine g_iload_n XX d_MO_isBefore_17 rfl 3 rfl ?_
    refine g_iload_n XX d_MO_isBefore_18 rfl 0 rfl ?_
    refine g_iadd XX d_MO_isBefore_19 ?_
    refine g_aload_n XX d_MO_isBefore_20 rfl 1 rfl ?_
    refine g_get (C := R_MO) (T := T_MO) (N := 10) XX (tmw win0_MO) 0 rfl rfl 2 (by decide) (tm kw_119) rfl rfl d_MO_isBefore_21 ?_
    refine g_icmp_ge (tgt := 31) XX d_MO_isBefore_24 (by decide) ⟨by omega, by omega⟩ ⟨by omega, by omega⟩ (fun h24 => ?_) (fun h24 => ?_)
    · -- 24: yes
      have hz : lb X n i j = false := by simp only [lb, decide_eq_false_iff_not]; omega
      refine g_iconst XX d_MO_isBefore_31 ?_
      refine g_goto (tgt := 69) XX d_MO_isBefore_32 (by decide) ?_
      exact ret _ _ _ _ [cO y 5 [.int (iI t), .ref b1, .int (iI n), .ref b2, .ref b3, .int (iI m), .ref b4, .ref b5, .ref b6, .ref b7], cR b2 cA 96 f2] [0, 1] (by first | exact Or.inl rfl | exact Or.inr rfl) d_MO_isBefore_69 (by decide) rfl (⟨by rw [hz]; rfl, rfl⟩)
    · -- 24: no
      have hz : lb X n i j = true := by simp only [lb, decide_eq_true_eq]; omega
      refine g_iconst XX d_MO_isBefore_27 ?_
      refine g_goto (tgt := 69) XX d_MO_isBefore_28 (by decide) ?_
      exact ret _ _ _ _ [cO y 5 [.int (iI t), .ref b1, .int (iI n), .ref b2, .ref b3, .int (iI m), .ref b4, .ref b5, .ref b6, .ref b7], cR b2 cA 96 f2] [0, 1] (by first | exact Or.inl rfl | exact Or.inr rfl) d_MO_isBefore_69 (by decide) rfl (⟨by rw [hz]; rfl, rfl⟩)
abbrev rm_M_sort : Room := { frames := 2, cells := 0, slots := 0, locals := 46 }
set_option maxHeartbeats 4000000 in
set_option maxRecDepth 100000 in
theorem c_M_sort (l : Launch) (D : va_G) (cA : ClassId) (y b1 b2 b3 b4 b5 b6 b7 : Nat) (f2 f3 X : Int → Int) (t n m : Int) (hn : 0 ≤ n ∧ n ≤ 96) (hfX : ag f2 X n) (hbX : bt8 X n) : xV l y_MO_sort w_MO_sort rm_M_sort D vwCl [(cA, .int)] [.ref y] [cO y 5 [.int (iI t), .ref b1, .int (iI n), .ref b2, .ref b3, .int (iI m), .ref b4, .ref b5, .ref b6, .ref b7], cR b2 cA 96 f2, cR b3 cA 97 f3] (fun w => ∃ (f3' : Int → Int), w = [cO y 5 [.int (iI t), .ref b1, .int (iI n), .ref b2, .ref b3, .int (iI m), .ref b4, .ref b5, .ref b6, .ref b7], cR b2 cA 96 f2, cR b3 cA 97 f3'] ∧ (ag f3' (og X n) (n + 1))) 0 0 := by
  refine xV.of (by decide) rfl (Nat.le_of_ble_eq_true rfl) ?_
  intro P0 E0 S0 M0 A0 B0 T0 C0 AA QQ XX hnm ret
  refine g_iconst XX d_MO_sort_0 ?_
  refine g_istore_n (lv' := [(1, .int (iI 0)), (0, .ref y)]) XX d_MO_sort_1 rfl (by decide) rfl ?_
  have L2 : ∀ (k_2 : Nat) (p0 : Int) (o1 : Int → Int), (0 ≤ p0 ∧ p0 ≤ n + 1) → (srt X n o1 p0) → (n + 1 - p0).toNat = k_2 → xG P0 l E0 rm_M_sort S0 M0 A0 B0 T0 C0 QQ 3 D vwCl AA 0 0 [cO y 5 [.int (iI t), .ref b1, .int (iI n), .ref b2, .ref b3, .int (iI m), .ref b4, .ref b5, .ref b6, .ref b7], cR b2 cA 96 f2, cR b3 cA 97 o1] 2 [(1, .int (iI p0)), (0, .ref y)] [] := by
    refine x_ind (fun k_2 ih_2 p0 o1 h1 h2 hk_2 => ?_)
    refine g_iload_n XX d_MO_sort_2 rfl 0 rfl ?_
    refine g_aload_n XX d_MO_sort_3 rfl 1 rfl ?_
    refine g_get (C := R_MO) (T := T_MO) (N := 10) XX (tmw win0_MO) 0 rfl rfl 2 (by decide) (tm kw_119) rfl rfl d_MO_sort_4 ?_
    refine g_icmp_gt (tgt := 65) XX d_MO_sort_7 (by decide) ⟨by omega, by omega⟩ ⟨by omega, by omega⟩ (fun h7 => ?_) (fun h7 => ?_)
    · -- 7: yes
      exact ret _ _ _ [cO y 5 [.int (iI t), .ref b1, .int (iI n), .ref b2, .ref b3, .int (iI m), .ref b4, .ref b5, .ref b6, .ref b7], cR b2 cA 96 f2, cR b3 cA 97 o1] [0, 1, 2] d_MO_sort_65 (by decide) rfl (⟨o1, rfl, srt_og (by omega) (by rw [show n + 1 = p0 by omega]; exact h2)⟩)
    · -- 7: no
      refine g_iload_n XX d_MO_sort_10 rfl 0 rfl ?_
      refine g_istore_n (lv' := [(2, .int (iI p0)), (1, .int (iI p0)), (0, .ref y)]) XX d_MO_sort_11 rfl (by decide) rfl ?_
      have L12 : ∀ (k_12 : Nat) (a0 : Int) (cur : Int → Int), (0 ≤ a0 ∧ a0 ≤ p0) → (∀ j, 0 ≤ j → j < a0 → cur j = o1 j) → (∀ j, a0 < j → j ≤ p0 → cur j = o1 (j - 1)) → (∀ j, a0 ≤ j → j < p0 → LT X n p0 (o1 j)) → (a0).toNat = k_12 → xG P0 l E0 rm_M_sort S0 M0 A0 B0 T0 C0 QQ 3 D vwCl AA 0 0 [cO y 5 [.int (iI t), .ref b1, .int (iI n), .ref b2, .ref b3, .int (iI m), .ref b4, .ref b5, .ref b6, .ref b7], cR b2 cA 96 f2, cR b3 cA 97 cur] 12 [(2, .int (iI a0)), (1, .int (iI p0)), (0, .ref y)] [] := by
        refine x_ind (fun k_12 ih_12 a0 cur g1 g2 g3 g4 hk_12 => ?_)
        refine g_iload_n XX d_MO_sort_12 rfl 0 rfl ?_
        refine g_if_le (tgt := 52) XX d_MO_sort_13 (by decide) ⟨by omega, by omega⟩ (fun h13 => ?_) (fun h13 => ?_)
        · -- 13: yes
          have hE : a0 = 0 ∨ ¬ LT X n p0 (o1 (a0 - 1)) := by first | exact Or.inl (by omega) | exact Or.inr (fun z => by have y := (lb_iff (X := X) (n := n) (p := p0) (q := cur (a0 - 1)) (by omega) (by omega)).mpr (by rw [e1]; exact z); rw [z01_0 h29] at y; cases y)
          refine g_aload_n XX d_MO_sort_52 rfl 2 rfl ?_
          refine g_get (C := R_MO) (T := T_MO) (N := 10) XX (tmw win0_MO) 0 rfl rfl 4 (by decide) (tm kw_112) rfl rfl d_MO_sort_53 ?_
          refine g_iload_n XX d_MO_sort_56 rfl 0 rfl ?_
          refine g_iload_n XX d_MO_sort_57 rfl 1 rfl ?_
          refine g_iast (ws' := [cO y 5 [.int (iI t), .ref b1, .int (iI n), .ref b2, .ref b3, .int (iI m), .ref b4, .ref b5, .ref b6, .ref b7], cR b2 cA 96 f2, cR b3 cA 97 (iup cur a0 p0)]) XX 2 0 rfl rfl ⟨by omega, by omega, by decide⟩ rfl d_MO_sort_58 ?_
          refine g_iinc (lv' := [(1, .int (iI (p0 + 1))), (2, .int (iI a0)), (0, .ref y)]) XX d_MO_sort_59 1 rfl (by decide) rfl ?_
          refine g_goto (tgt := 2) XX d_MO_sort_62 (by decide) ?_
          refine g_lv (lv' := [(1, .int (iI (p0 + 1))), (0, .ref y)]) [0, 2] rfl ?_
          exact ih_2 _ (by omega) (p0 + 1) (iup cur a0 p0) (by omega) (srt_s (by omega) (by omega) (by omega) h2 g2 g3 g4 hE) rfl
        · -- 13: no
          refine g_aload_n XX d_MO_sort_16 rfl 2 rfl ?_
          refine g_iload_n XX d_MO_sort_17 rfl 1 rfl ?_
          refine g_aload_n XX d_MO_sort_18 rfl 2 rfl ?_
          refine g_get (C := R_MO) (T := T_MO) (N := 10) XX (tmw win0_MO) 0 rfl rfl 4 (by decide) (tm kw_112) rfl rfl d_MO_sort_19 ?_
          refine g_iload_n XX d_MO_sort_22 rfl 0 rfl ?_
          refine g_iconst XX d_MO_sort_23 ?_
          refine g_isub XX d_MO_sort_24 ?_
          refine g_iald XX 2 0 rfl rfl ⟨by omega, by omega, by decide⟩ d_MO_sort_25 ?_
          have e1 := g2 (a0 - 1) (by omega) (by omega)
          have r1 := h2.1 (a0 - 1) (by omega) (by omega)
          refine g_calli (As := [.int (iI p0), .int (iI (cur (a0 - 1)))]) (st := []) (wr := [cR b3 cA 97 cur]) XX (c_M_isBefore l D cA y b1 b2 b3 b4 b5 b6 b7 f2 X t n m p0 (cur (a0 - 1)) (by first | assumption | omega) (by first | assumption | omega) (by first | assumption | omega) (by first | assumption | omega)) (x_cw 2 XX.2.2.2.2.1 (gi kw_125) rfl rfl (tm kw_123) (tm kw_126) (tm kw_127) (tm kw_128) ⟨by decide +kernel, by decide +kernel, by decide +kernel⟩ ⟨by decide, by decide⟩) [0, 1] [2] rfl rfl (by decide) (by decide) (by decide) 0 5 rfl rfl rfl rfl (Nat.le_of_ble_eq_true rfl) d_MO_sort_26 ⟨by decide, by decide⟩ (fun r_ w_ hq => ?_)
          obtain ⟨rfl, rfl⟩ := hq
          show xG P0 l E0 rm_M_sort S0 M0 A0 B0 T0 C0 QQ 3 D vwCl AA 0 0 [cR b3 cA 97 cur, cO y 5 [.int (iI t), .ref b1, .int (iI n), .ref b2, .ref b3, .int (iI m), .ref b4, .ref b5, .ref b6, .ref b7], cR b2 cA 96 f2] 29 [(2, .int (iI a0)), (1, .int (iI p0)), (0, .ref y)] [.int (iI (if lb X n p0 (cur (a0 - 1)) then 1 else 0))]
          refine g_if_eq (tgt := 52) XX d_MO_sort_29 (by decide) z01 (fun h29 => ?_) (fun h29 => ?_)
          · -- 29: yes
            have hE : a0 = 0 ∨ ¬ LT X n p0 (o1 (a0 - 1)) := by first | exact Or.inl (by omega) | exact Or.inr (fun z => by have y := (lb_iff (X := X) (n := n) (p := p0) (q := cur (a0 - 1)) (by omega) (by omega)).mpr (by rw [e1]; exact z); rw [z01_0 h29] at y; cases y)
            refine g_aload_n XX d_MO_sort_52 rfl 2 rfl ?_
            refine g_get (C := R_MO) (T := T_MO) (N := 10) XX (tmw win0_MO) 1 rfl rfl 4 (by decide) (tm kw_112) rfl rfl d_MO_sort_53 ?_
            refine g_iload_n XX d_MO_sort_56 rfl 0 rfl ?_
            refine g_iload_n XX d_MO_sort_57 rfl 1 rfl ?_
            refine g_iast (ws' := [cR b3 cA 97 (iup cur a0 p0), cO y 5 [.int (iI t), .ref b1, .int (iI n), .ref b2, .ref b3, .int (iI m), .ref b4, .ref b5, .ref b6, .ref b7], cR b2 cA 96 f2]) XX 0 0 rfl rfl ⟨by omega, by omega, by decide⟩ rfl d_MO_sort_58 ?_
            refine g_iinc (lv' := [(1, .int (iI (p0 + 1))), (2, .int (iI a0)), (0, .ref y)]) XX d_MO_sort_59 1 rfl (by decide) rfl ?_
            refine g_goto (tgt := 2) XX d_MO_sort_62 (by decide) ?_
            refine g_lv (lv' := [(1, .int (iI (p0 + 1))), (0, .ref y)]) [0, 2] rfl ?_
            refine g_ws (ws' := [cO y 5 [.int (iI t), .ref b1, .int (iI n), .ref b2, .ref b3, .int (iI m), .ref b4, .ref b5, .ref b6, .ref b7], cR b2 cA 96 f2, cR b3 cA 97 (iup cur a0 p0)]) [1, 2, 0] (by decide) rfl ?_
            exact ih_2 _ (by omega) (p0 + 1) (iup cur a0 p0) (by omega) (srt_s (by omega) (by omega) (by omega) h2 g2 g3 g4 hE) rfl
          · -- 29: no
            refine g_aload_n XX d_MO_sort_32 rfl 2 rfl ?_
            refine g_get (C := R_MO) (T := T_MO) (N := 10) XX (tmw win0_MO) 1 rfl rfl 4 (by decide) (tm kw_112) rfl rfl d_MO_sort_33 ?_
            refine g_iload_n XX d_MO_sort_36 rfl 0 rfl ?_
            refine g_aload_n XX d_MO_sort_37 rfl 2 rfl ?_
            refine g_get (C := R_MO) (T := T_MO) (N := 10) XX (tmw win0_MO) 1 rfl rfl 4 (by decide) (tm kw_112) rfl rfl d_MO_sort_38 ?_
            refine g_iload_n XX d_MO_sort_41 rfl 0 rfl ?_
            refine g_iconst XX d_MO_sort_42 ?_
            refine g_isub XX d_MO_sort_43 ?_
            refine g_iald XX 0 0 rfl rfl ⟨by omega, by omega, by decide⟩ d_MO_sort_44 ?_
            refine g_iast (ws' := [cR b3 cA 97 (iup cur a0 (cur (a0 - 1))), cO y 5 [.int (iI t), .ref b1, .int (iI n), .ref b2, .ref b3, .int (iI m), .ref b4, .ref b5, .ref b6, .ref b7], cR b2 cA 96 f2]) XX 0 0 rfl rfl ⟨by omega, by omega, by decide⟩ rfl d_MO_sort_45 ?_
            refine g_iinc (lv' := [(2, .int (iI (a0 + (-1)))), (1, .int (iI p0)), (0, .ref y)]) XX d_MO_sort_46 0 rfl (by decide) rfl ?_
            refine g_goto (tgt := 12) XX d_MO_sort_49 (by decide) ?_
            refine g_ws (ws' := [cO y 5 [.int (iI t), .ref b1, .int (iI n), .ref b2, .ref b3, .int (iI m), .ref b4, .ref b5, .ref b6, .ref b7], cR b2 cA 96 f2, cR b3 cA 97 (iup cur a0 (cur (a0 - 1)))]) [1, 2, 0] (by decide) rfl ?_
            exact ih_12 _ (by omega) (a0 + (-1)) (iup cur a0 (cur (a0 - 1))) (by omega) (fun j a b => by rw [iup_ne (by omega)]; exact g2 j a (by omega)) (fun j a b => if z : j = a0 then by rw [iup_eq z, e1, z] else by rw [iup_ne z]; exact g3 j (by omega) b) (fun j a b => if z : j = a0 - 1 then by rw [z, ← e1]; exact (lb_iff (by omega) (by omega)).mp (z01_1 h29) else g4 j (by omega) b) rfl
      exact L12 _ p0 o1 (by omega) (fun j a b => rfl) (fun j a b => by omega) (fun j a b => by omega) rfl
  exact L2 _ 0 f3 (by omega) (srt_0) rfl
abbrev rm_M_take : Room := { frames := 3, cells := 0, slots := 0, locals := 68 }
set_option maxHeartbeats 4000000 in
set_option maxRecDepth 100000 in
theorem c_M_take (l : Launch) (D : va_G) (cA : ClassId) (y b1 b2 b3 b4 b5 b6 b7 : Nat) (f1 f2 f3 T : Int → Int) (t n m : Int) (ht : 0 ≤ t ∧ t ≤ 96) (hfT : ag f1 T t) (hbT : bt8 T t) : xV l y_MO_take w_MO_take rm_M_take D vwCl [(cA, .int)] [.ref y] [cO y 5 [.int (iI t), .ref b1, .int (iI n), .ref b2, .ref b3, .int (iI m), .ref b4, .ref b5, .ref b6, .ref b7], cR b1 cA 96 f1, cR b2 cA 96 f2, cR b3 cA 97 f3] (fun w => ∃ (f2' : Int → Int), ∃ (f3' : Int → Int), w = [cO y 5 [.int (iI 0), .ref b1, .int (iI t), .ref b2, .ref b3, .int (iI m), .ref b4, .ref b5, .ref b6, .ref b7], cR b1 cA 96 f1, cR b2 cA 96 f2', cR b3 cA 97 f3'] ∧ (ag f2' T t) ∧ (ag f3' (og T t) (t + 1))) 0 0 := by
  refine xV.of (by decide) rfl (Nat.le_of_ble_eq_true rfl) ?_
  intro P0 E0 S0 M0 A0 B0 T0 C0 AA QQ XX hnm ret
  refine g_iconst XX d_MO_take_0 ?_
  refine g_istore_n (lv' := [(1, .int (iI 0)), (0, .ref y)]) XX d_MO_take_1 rfl (by decide) rfl ?_
  have L2 : ∀ (k_2 : Nat) (k0 : Int) (fc : Int → Int), (0 ≤ k0 ∧ k0 ≤ t) → (ag fc T k0) → (t - k0).toNat = k_2 → xG P0 l E0 rm_M_take S0 M0 A0 B0 T0 C0 QQ 2 D vwCl AA 0 0 [cO y 5 [.int (iI t), .ref b1, .int (iI n), .ref b2, .ref b3, .int (iI m), .ref b4, .ref b5, .ref b6, .ref b7], cR b1 cA 96 f1, cR b2 cA 96 fc, cR b3 cA 97 f3] 2 [(1, .int (iI k0)), (0, .ref y)] [] := by
    refine x_ind (fun k_2 ih_2 k0 fc h1 h2 hk_2 => ?_)
    refine g_iload_n XX d_MO_take_2 rfl 0 rfl ?_
    refine g_aload_n XX d_MO_take_3 rfl 1 rfl ?_
    refine g_get (C := R_MO) (T := T_MO) (N := 10) XX (tmw win0_MO) 0 rfl rfl 0 (by decide) (tm kw_117) rfl rfl d_MO_take_4 ?_
    refine g_icmp_ge (tgt := 28) XX d_MO_take_7 (by decide) ⟨by omega, by omega⟩ ⟨by omega, by omega⟩ (fun h7 => ?_) (fun h7 => ?_)
    · -- 7: yes
      refine g_aload_n XX d_MO_take_28 rfl 1 rfl ?_
      refine g_aload_n XX d_MO_take_29 rfl 1 rfl ?_
      refine g_get (C := R_MO) (T := T_MO) (N := 10) XX (tmw win0_MO) 0 rfl rfl 0 (by decide) (tm kw_117) rfl rfl d_MO_take_30 ?_
      refine g_put (C := R_MO) (T := T_MO) (N := 10) (ty := (.int)) (ws' := [cO y 5 [.int (iI t), .ref b1, .int (iI t), .ref b2, .ref b3, .int (iI m), .ref b4, .ref b5, .ref b6, .ref b7], cR b1 cA 96 f1, cR b2 cA 96 fc, cR b3 cA 97 f3]) XX (tmw win0_MO) ty_MO ok_MO nm_MO 0 rfl rfl 2 (by decide) (tm kw_119) rfl rfl (by decide +kernel) rfl rfl (Nat.le_of_ble_eq_true rfl) rfl d_MO_take_33 ?_
      refine g_aload_n XX d_MO_take_36 rfl 1 rfl ?_
      refine g_iconst XX d_MO_take_37 ?_
      refine g_put (C := R_MO) (T := T_MO) (N := 10) (ty := (.int)) (ws' := [cO y 5 [.int (iI 0), .ref b1, .int (iI t), .ref b2, .ref b3, .int (iI m), .ref b4, .ref b5, .ref b6, .ref b7], cR b1 cA 96 f1, cR b2 cA 96 fc, cR b3 cA 97 f3]) XX (tmw win0_MO) ty_MO ok_MO nm_MO 0 rfl rfl 0 (by decide) (tm kw_117) rfl rfl (by decide +kernel) rfl rfl (Nat.le_of_ble_eq_true rfl) rfl d_MO_take_38 ?_
      refine g_aload_n XX d_MO_take_41 rfl 1 rfl ?_
      refine g_callv (As := []) (st := []) (wr := [cR b1 cA 96 f1]) XX (c_M_sort l D cA y b1 b2 b3 b4 b5 b6 b7 fc f3 T 0 t m (by first | assumption | omega) (ag_le h2 (by omega)) (hbT)) (x_cw 0 XX.2.2.2.2.1 (gi kw_129) rfl rfl (tm kw_123) (tm kw_130) (tm kw_131) (tm kw_132) ⟨by decide +kernel, by decide +kernel, by decide +kernel⟩ ⟨by decide, by decide⟩) [0, 2, 3] [1] rfl rfl (by decide) (by decide) (by decide) 0 5 rfl rfl rfl rfl (Nat.le_of_ble_eq_true rfl) d_MO_take_42 ⟨by decide, by decide⟩ (fun w_ hq => ?_)
      obtain ⟨f3'_42, rfl, u42_0⟩ := hq
      show xG P0 l E0 rm_M_take S0 M0 A0 B0 T0 C0 QQ 2 D vwCl AA 0 0 [cR b1 cA 96 f1, cO y 5 [.int (iI 0), .ref b1, .int (iI t), .ref b2, .ref b3, .int (iI m), .ref b4, .ref b5, .ref b6, .ref b7], cR b2 cA 96 fc, cR b3 cA 97 f3'_42] 45 [(1, .int (iI k0)), (0, .ref y)] []
      exact ret _ _ _ [cO y 5 [.int (iI 0), .ref b1, .int (iI t), .ref b2, .ref b3, .int (iI m), .ref b4, .ref b5, .ref b6, .ref b7], cR b1 cA 96 f1, cR b2 cA 96 fc, cR b3 cA 97 f3'_42] [1, 0, 2, 3] d_MO_take_45 (by decide) rfl (⟨fc, f3'_42, rfl, ag_le h2 (by omega), u42_0⟩)
    · -- 7: no
      refine g_aload_n XX d_MO_take_10 rfl 1 rfl ?_
      refine g_get (C := R_MO) (T := T_MO) (N := 10) XX (tmw win0_MO) 0 rfl rfl 3 (by decide) (tm kw_111) rfl rfl d_MO_take_11 ?_
      refine g_iload_n XX d_MO_take_14 rfl 0 rfl ?_
      refine g_aload_n XX d_MO_take_15 rfl 1 rfl ?_
      refine g_get (C := R_MO) (T := T_MO) (N := 10) XX (tmw win0_MO) 0 rfl rfl 1 (by decide) (tm kw_110) rfl rfl d_MO_take_16 ?_
      refine g_iload_n XX d_MO_take_19 rfl 0 rfl ?_
      refine g_iald XX 1 0 rfl rfl ⟨by omega, by omega, by decide⟩ d_MO_take_20 ?_
      refine g_iast (ws' := [cO y 5 [.int (iI t), .ref b1, .int (iI n), .ref b2, .ref b3, .int (iI m), .ref b4, .ref b5, .ref b6, .ref b7], cR b1 cA 96 f1, cR b2 cA 96 (iup fc k0 (f1 k0)), cR b3 cA 97 f3]) XX 2 0 rfl rfl ⟨by omega, by omega, by decide⟩ rfl d_MO_take_21 ?_
      refine g_iinc (lv' := [(1, .int (iI (k0 + 1))), (0, .ref y)]) XX d_MO_take_22 0 rfl (by decide) rfl ?_
      refine g_goto (tgt := 2) XX d_MO_take_25 (by decide) ?_
      exact ih_2 _ (by omega) (k0 + 1) (iup fc k0 (f1 k0)) (by omega) (ag_s h2 (hfT k0 (by omega) (by omega))) rfl
  exact L2 _ 0 f2 (by omega) (ag_0 (by omega)) rfl
abbrev rm_M_build : Room := { frames := 4, cells := 0, slots := 0, locals := 89 }
set_option maxHeartbeats 4000000 in
set_option maxRecDepth 100000 in
theorem c_M_build (l : Launch) (D : va_G) (cA : ClassId) (y b1 b2 b3 b4 b5 b6 b7 : Nat) (f1 f2 f3 T : Int → Int) (t n m : Int) (ht : 0 ≤ t ∧ t ≤ 96) (hfT : ag f1 T t) (hbT : bt8 T t) : xM l y_MO_build w_MO_build rm_M_build D vwCl [(cA, .int)] [.ref y] [cO y 5 [.int (iI t), .ref b1, .int (iI n), .ref b2, .ref b3, .int (iI m), .ref b4, .ref b5, .ref b6, .ref b7], cR b1 cA 96 f1, cR b2 cA 96 f2, cR b3 cA 97 f3] (fun r w => ∃ (f2' : Int → Int), ∃ (f3' : Int → Int), r = iI t ∧ w = [cO y 5 [.int (iI 0), .ref b1, .int (iI t), .ref b2, .ref b3, .int (iI m), .ref b4, .ref b5, .ref b6, .ref b7], cR b1 cA 96 f1, cR b2 cA 96 f2', cR b3 cA 97 f3'] ∧ (ag f2' T t) ∧ (ag f3' (og T t) (t + 1))) 0 0 := by
  refine xM.ofI (by decide) rfl (Nat.le_of_ble_eq_true rfl) ?_
  intro P0 E0 S0 M0 A0 B0 T0 C0 AA QQ XX hnm ret
  refine g_aload_n XX d_MO_build_0 rfl 0 rfl ?_
  refine g_callv (As := []) (st := []) (wr := []) XX (c_M_take l D cA y b1 b2 b3 b4 b5 b6 b7 f1 f2 f3 T t n m (by first | assumption | omega) (by first | assumption | omega) (by first | assumption | omega)) (x_cw 0 XX.2.2.2.2.1 (gi kw_133) rfl rfl (tm kw_123) (tm kw_134) (tm kw_135) (tm kw_136) ⟨by decide +kernel, by decide +kernel, by decide +kernel⟩ ⟨by decide, by decide⟩) [0, 1, 2, 3] [] rfl rfl (by decide) (by decide) (by decide) 0 5 rfl rfl rfl rfl (Nat.le_of_ble_eq_true rfl) d_MO_build_1 ⟨by decide, by decide⟩ (fun w_ hq => ?_)
  obtain ⟨f2'_1, f3'_1, rfl, u1_0, u1_1⟩ := hq
  show xG P0 l E0 rm_M_build S0 M0 A0 B0 T0 C0 QQ 1 D vwCl AA 0 0 [cO y 5 [.int (iI 0), .ref b1, .int (iI t), .ref b2, .ref b3, .int (iI m), .ref b4, .ref b5, .ref b6, .ref b7], cR b1 cA 96 f1, cR b2 cA 96 f2'_1, cR b3 cA 97 f3'_1] 4 [(0, .ref y)] []
  refine g_aload_n XX d_MO_build_4 rfl 0 rfl ?_
  refine g_get (C := R_MO) (T := T_MO) (N := 10) XX (tmw win0_MO) 0 rfl rfl 2 (by decide) (tm kw_119) rfl rfl d_MO_build_5 ?_
  exact ret _ _ _ _ [cO y 5 [.int (iI 0), .ref b1, .int (iI t), .ref b2, .ref b3, .int (iI m), .ref b4, .ref b5, .ref b6, .ref b7], cR b1 cA 96 f1, cR b2 cA 96 f2'_1, cR b3 cA 97 f3'_1] [0, 1, 2, 3] d_MO_build_8 (by decide) rfl (⟨f2'_1, f3'_1, rfl, rfl, u1_0, u1_1⟩)
abbrev rm_M_size : Room := { frames := 0, cells := 0, slots := 0, locals := 0 }
set_option maxHeartbeats 4000000 in
set_option maxRecDepth 100000 in
theorem c_M_size (l : Launch) (D : va_G) (cA : ClassId) (y b1 b2 b3 b4 b5 b6 b7 : Nat) (t n m : Int)  : xM l y_MO_size w_MO_size rm_M_size D vwCl [(cA, .int)] [.ref y] [cO y 5 [.int (iI t), .ref b1, .int (iI n), .ref b2, .ref b3, .int (iI m), .ref b4, .ref b5, .ref b6, .ref b7]] (fun r w => r = iI n ∧ w = [cO y 5 [.int (iI t), .ref b1, .int (iI n), .ref b2, .ref b3, .int (iI m), .ref b4, .ref b5, .ref b6, .ref b7]]) 0 0 := by
  refine xM.ofI (by decide) rfl (Nat.le_of_ble_eq_true rfl) ?_
  intro P0 E0 S0 M0 A0 B0 T0 C0 AA QQ XX hnm ret
  refine g_aload_n XX d_MO_size_0 rfl 0 rfl ?_
  refine g_get (C := R_MO) (T := T_MO) (N := 10) XX (tmw win0_MO) 0 rfl rfl 2 (by decide) (tm kw_119) rfl rfl d_MO_size_1 ?_
  exact ret _ _ _ _ [cO y 5 [.int (iI t), .ref b1, .int (iI n), .ref b2, .ref b3, .int (iI m), .ref b4, .ref b5, .ref b6, .ref b7]] [0] d_MO_size_4 (by decide) rfl (⟨rfl, rfl⟩)
abbrev rm_M_at : Room := { frames := 0, cells := 0, slots := 0, locals := 0 }
set_option maxHeartbeats 4000000 in
set_option maxRecDepth 100000 in
theorem c_M_at (l : Launch) (D : va_G) (cA : ClassId) (y b1 b2 b3 b4 b5 b6 b7 : Nat) (f2 X : Int → Int) (t n m i : Int) (hn : 0 ≤ n ∧ n ≤ 96) (hi : -2147483648 ≤ i ∧ i < 2147483648) (hfX : ag f2 X n) : xM l y_MO_at w_MO_at rm_M_at D vwCl [(cA, .int)] [.ref y, .int (iI i)] [cO y 5 [.int (iI t), .ref b1, .int (iI n), .ref b2, .ref b3, .int (iI m), .ref b4, .ref b5, .ref b6, .ref b7], cR b2 cA 96 f2] (fun r w => r = iI (if 0 ≤ i ∧ i < n then X i else -1) ∧ w = [cO y 5 [.int (iI t), .ref b1, .int (iI n), .ref b2, .ref b3, .int (iI m), .ref b4, .ref b5, .ref b6, .ref b7], cR b2 cA 96 f2]) 0 0 := by
  refine xM.ofI (by decide) rfl (Nat.le_of_ble_eq_true rfl) ?_
  intro P0 E0 S0 M0 A0 B0 T0 C0 AA QQ XX hnm ret
  refine g_iload_n XX d_MO_at_0 rfl 1 rfl ?_
  refine g_if_lt (tgt := 21) XX d_MO_at_1 (by decide) ⟨by omega, by omega⟩ (fun h1 => ?_) (fun h1 => ?_)
  · -- 1: yes
    have hz : ¬ (0 ≤ i ∧ i < n) := by omega
    refine g_iconst XX d_MO_at_21 ?_
    exact ret _ _ _ _ [cO y 5 [.int (iI t), .ref b1, .int (iI n), .ref b2, .ref b3, .int (iI m), .ref b4, .ref b5, .ref b6, .ref b7], cR b2 cA 96 f2] [0, 1] d_MO_at_22 (by decide) rfl (⟨by first | rw [if_pos hz, e1] | rw [if_neg hz], rfl⟩)
  · -- 1: no
    refine g_iload_n XX d_MO_at_4 rfl 1 rfl ?_
    refine g_aload_n XX d_MO_at_5 rfl 0 rfl ?_
    refine g_get (C := R_MO) (T := T_MO) (N := 10) XX (tmw win0_MO) 0 rfl rfl 2 (by decide) (tm kw_119) rfl rfl d_MO_at_6 ?_
    refine g_icmp_ge (tgt := 21) XX d_MO_at_9 (by decide) ⟨by omega, by omega⟩ ⟨by omega, by omega⟩ (fun h9 => ?_) (fun h9 => ?_)
    · -- 9: yes
      have hz : ¬ (0 ≤ i ∧ i < n) := by omega
      refine g_iconst XX d_MO_at_21 ?_
      exact ret _ _ _ _ [cO y 5 [.int (iI t), .ref b1, .int (iI n), .ref b2, .ref b3, .int (iI m), .ref b4, .ref b5, .ref b6, .ref b7], cR b2 cA 96 f2] [0, 1] d_MO_at_22 (by decide) rfl (⟨by first | rw [if_pos hz, e1] | rw [if_neg hz], rfl⟩)
    · -- 9: no
      refine g_aload_n XX d_MO_at_12 rfl 0 rfl ?_
      refine g_get (C := R_MO) (T := T_MO) (N := 10) XX (tmw win0_MO) 0 rfl rfl 3 (by decide) (tm kw_111) rfl rfl d_MO_at_13 ?_
      refine g_iload_n XX d_MO_at_16 rfl 1 rfl ?_
      refine g_iald XX 1 0 rfl rfl ⟨by omega, by omega, by decide⟩ d_MO_at_17 ?_
      have hz : 0 ≤ i ∧ i < n := by omega
      have e1 := hfX i (by omega) (by omega)
      refine g_goto (tgt := 22) XX d_MO_at_18 (by decide) ?_
      exact ret _ _ _ _ [cO y 5 [.int (iI t), .ref b1, .int (iI n), .ref b2, .ref b3, .int (iI m), .ref b4, .ref b5, .ref b6, .ref b7], cR b2 cA 96 f2] [0, 1] d_MO_at_22 (by decide) rfl (⟨by first | rw [if_pos hz, e1] | rw [if_neg hz], rfl⟩)
abbrev rm_M_suffix : Room := { frames := 0, cells := 0, slots := 0, locals := 0 }
set_option maxHeartbeats 4000000 in
set_option maxRecDepth 100000 in
theorem c_M_suffix (l : Launch) (D : va_G) (cA : ClassId) (y b1 b2 b3 b4 b5 b6 b7 : Nat) (f3 X : Int → Int) (t n m i : Int) (hn : 0 ≤ n ∧ n ≤ 96) (hi : -2147483648 ≤ i ∧ i < 2147483648) (hfO : ag f3 (og X n) (n + 1)) : xM l y_MO_suffix w_MO_suffix rm_M_suffix D vwCl [(cA, .int)] [.ref y, .int (iI i)] [cO y 5 [.int (iI t), .ref b1, .int (iI n), .ref b2, .ref b3, .int (iI m), .ref b4, .ref b5, .ref b6, .ref b7], cR b3 cA 97 f3] (fun r w => r = iI (if 0 ≤ i ∧ i ≤ n then og X n i else -1) ∧ w = [cO y 5 [.int (iI t), .ref b1, .int (iI n), .ref b2, .ref b3, .int (iI m), .ref b4, .ref b5, .ref b6, .ref b7], cR b3 cA 97 f3]) 0 0 := by
  refine xM.ofI (by decide) rfl (Nat.le_of_ble_eq_true rfl) ?_
  intro P0 E0 S0 M0 A0 B0 T0 C0 AA QQ XX hnm ret
  refine g_iload_n XX d_MO_suffix_0 rfl 1 rfl ?_
  refine g_if_lt (tgt := 21) XX d_MO_suffix_1 (by decide) ⟨by omega, by omega⟩ (fun h1 => ?_) (fun h1 => ?_)
  · -- 1: yes
    have hz : ¬ (0 ≤ i ∧ i ≤ n) := by omega
    refine g_iconst XX d_MO_suffix_21 ?_
    exact ret _ _ _ _ [cO y 5 [.int (iI t), .ref b1, .int (iI n), .ref b2, .ref b3, .int (iI m), .ref b4, .ref b5, .ref b6, .ref b7], cR b3 cA 97 f3] [0, 1] d_MO_suffix_22 (by decide) rfl (⟨by first | rw [if_pos hz, e1] | rw [if_neg hz], rfl⟩)
  · -- 1: no
    refine g_iload_n XX d_MO_suffix_4 rfl 1 rfl ?_
    refine g_aload_n XX d_MO_suffix_5 rfl 0 rfl ?_
    refine g_get (C := R_MO) (T := T_MO) (N := 10) XX (tmw win0_MO) 0 rfl rfl 2 (by decide) (tm kw_119) rfl rfl d_MO_suffix_6 ?_
    refine g_icmp_gt (tgt := 21) XX d_MO_suffix_9 (by decide) ⟨by omega, by omega⟩ ⟨by omega, by omega⟩ (fun h9 => ?_) (fun h9 => ?_)
    · -- 9: yes
      have hz : ¬ (0 ≤ i ∧ i ≤ n) := by omega
      refine g_iconst XX d_MO_suffix_21 ?_
      exact ret _ _ _ _ [cO y 5 [.int (iI t), .ref b1, .int (iI n), .ref b2, .ref b3, .int (iI m), .ref b4, .ref b5, .ref b6, .ref b7], cR b3 cA 97 f3] [0, 1] d_MO_suffix_22 (by decide) rfl (⟨by first | rw [if_pos hz, e1] | rw [if_neg hz], rfl⟩)
    · -- 9: no
      refine g_aload_n XX d_MO_suffix_12 rfl 0 rfl ?_
      refine g_get (C := R_MO) (T := T_MO) (N := 10) XX (tmw win0_MO) 0 rfl rfl 4 (by decide) (tm kw_112) rfl rfl d_MO_suffix_13 ?_
      refine g_iload_n XX d_MO_suffix_16 rfl 1 rfl ?_
      refine g_iald XX 1 0 rfl rfl ⟨by omega, by omega, by decide⟩ d_MO_suffix_17 ?_
      have hz : 0 ≤ i ∧ i ≤ n := by omega
      have e1 := hfO i (by omega) (by omega)
      refine g_goto (tgt := 22) XX d_MO_suffix_18 (by decide) ?_
      exact ret _ _ _ _ [cO y 5 [.int (iI t), .ref b1, .int (iI n), .ref b2, .ref b3, .int (iI m), .ref b4, .ref b5, .ref b6, .ref b7], cR b3 cA 97 f3] [0, 1] d_MO_suffix_22 (by decide) rfl (⟨by first | rw [if_pos hz, e1] | rw [if_neg hz], rfl⟩)
abbrev rm_M_rank : Room := { frames := 0, cells := 0, slots := 0, locals := 0 }
set_option maxHeartbeats 4000000 in
set_option maxRecDepth 100000 in
theorem c_M_rank (l : Launch) (D : va_G) (cA : ClassId) (y b1 b2 b3 b4 b5 b6 b7 : Nat) (f3 X : Int → Int) (t n m i : Int) (hn : 0 ≤ n ∧ n ≤ 96) (hi : -2147483648 ≤ i ∧ i < 2147483648) (hfO : ag f3 (og X n) (n + 1)) : xM l y_MO_rank w_MO_rank rm_M_rank D vwCl [(cA, .int)] [.ref y, .int (iI i)] [cO y 5 [.int (iI t), .ref b1, .int (iI n), .ref b2, .ref b3, .int (iI m), .ref b4, .ref b5, .ref b6, .ref b7], cR b3 cA 97 f3] (fun r w => r = iI (if 0 ≤ i ∧ i ≤ n then rk X n i else -1) ∧ w = [cO y 5 [.int (iI t), .ref b1, .int (iI n), .ref b2, .ref b3, .int (iI m), .ref b4, .ref b5, .ref b6, .ref b7], cR b3 cA 97 f3]) 0 0 := by
  refine xM.ofI (by decide) rfl (Nat.le_of_ble_eq_true rfl) ?_
  intro P0 E0 S0 M0 A0 B0 T0 C0 AA QQ XX hnm ret
  refine g_iconst XX d_MO_rank_0 ?_
  refine g_istore_n (lv' := [(2, .int (iI (-1))), (0, .ref y), (1, .int (iI i))]) XX d_MO_rank_1 rfl (by decide) rfl ?_
  refine g_iconst XX d_MO_rank_2 ?_
  refine g_istore_n (lv' := [(3, .int (iI 0)), (2, .int (iI (-1))), (0, .ref y), (1, .int (iI i))]) XX d_MO_rank_3 rfl (by decide) rfl ?_
  have L4 : ∀ (k_4 : Nat) (fo : Int) (r0 : Int), (0 ≤ r0 ∧ r0 ≤ n + 1) → (fo = if 0 ≤ i ∧ i ≤ n ∧ rk X n i < r0 then rk X n i else -1) → (n + 1 - r0).toNat = k_4 → xG P0 l E0 rm_M_rank S0 M0 A0 B0 T0 C0 QQ 4 D vwCl AA 0 0 [cO y 5 [.int (iI t), .ref b1, .int (iI n), .ref b2, .ref b3, .int (iI m), .ref b4, .ref b5, .ref b6, .ref b7], cR b3 cA 97 f3] 4 [(3, .int (iI r0)), (2, .int (iI fo)), (0, .ref y), (1, .int (iI i))] [] := by
    refine x_ind (fun k_4 ih_4 fo r0 h1 h2 hk_4 => ?_)
    refine g_iload_n XX d_MO_rank_4 rfl 0 rfl ?_
    refine g_aload_n XX d_MO_rank_5 rfl 2 rfl ?_
    refine g_get (C := R_MO) (T := T_MO) (N := 10) XX (tmw win0_MO) 0 rfl rfl 2 (by decide) (tm kw_119) rfl rfl d_MO_rank_6 ?_
    refine g_icmp_gt (tgt := 34) XX d_MO_rank_9 (by decide) ⟨by omega, by omega⟩ ⟨by omega, by omega⟩ (fun h9 => ?_) (fun h9 => ?_)
    · -- 9: yes
      refine g_iload_n XX d_MO_rank_34 rfl 1 rfl ?_
      exact ret _ _ _ _ [cO y 5 [.int (iI t), .ref b1, .int (iI n), .ref b2, .ref b3, .int (iI m), .ref b4, .ref b5, .ref b6, .ref b7], cR b3 cA 97 f3] [0, 1] d_MO_rank_35 (by decide) rfl (⟨congrArg iI (rkf_end (by omega) h2), rfl⟩)
    · -- 9: no
      refine g_aload_n XX d_MO_rank_12 rfl 2 rfl ?_
      refine g_get (C := R_MO) (T := T_MO) (N := 10) XX (tmw win0_MO) 0 rfl rfl 4 (by decide) (tm kw_112) rfl rfl d_MO_rank_13 ?_
      refine g_iload_n XX d_MO_rank_16 rfl 0 rfl ?_
      refine g_iald XX 1 0 rfl rfl ⟨by omega, by omega, by decide⟩ d_MO_rank_17 ?_
      refine g_iload_n XX d_MO_rank_18 rfl 3 rfl ?_
      have e1 := hfO r0 (by omega) (by omega)
      have g1 := og_rng (X := X) (n := n) (r := r0) (by omega) (by omega)
      refine g_icmp_ne (tgt := 26) XX d_MO_rank_19 (by decide) ⟨by omega, by omega⟩ ⟨by omega, by omega⟩ (fun h19 => ?_) (fun h19 => ?_)
      · -- 19: yes
        refine g_iload_n XX d_MO_rank_26 rfl 1 rfl ?_
        refine g_istore_n (lv' := [(2, .int (iI fo)), (3, .int (iI r0)), (0, .ref y), (1, .int (iI i))]) XX d_MO_rank_27 rfl (by decide) rfl ?_
        refine g_iinc (lv' := [(3, .int (iI (r0 + 1))), (2, .int (iI fo)), (0, .ref y), (1, .int (iI i))]) XX d_MO_rank_28 1 rfl (by decide) rfl ?_
        refine g_goto (tgt := 4) XX d_MO_rank_31 (by decide) ?_
        exact ih_4 _ (by omega) fo (r0 + 1) (by omega) (by first | exact rkf_put (by omega) (by omega) (by omega) | exact rkf_keep (by omega) (by omega) (by omega) h2) rfl
      · -- 19: no
        refine g_iload_n XX d_MO_rank_22 rfl 0 rfl ?_
        refine g_goto (tgt := 27) XX d_MO_rank_23 (by decide) ?_
        refine g_istore_n (lv' := [(2, .int (iI r0)), (3, .int (iI r0)), (0, .ref y), (1, .int (iI i))]) XX d_MO_rank_27 rfl (by decide) rfl ?_
        refine g_iinc (lv' := [(3, .int (iI (r0 + 1))), (2, .int (iI r0)), (0, .ref y), (1, .int (iI i))]) XX d_MO_rank_28 1 rfl (by decide) rfl ?_
        refine g_goto (tgt := 4) XX d_MO_rank_31 (by decide) ?_
        exact ih_4 _ (by omega) r0 (r0 + 1) (by omega) (by first | exact rkf_put (by omega) (by omega) (by omega) | exact rkf_keep (by omega) (by omega) (by omega) h2) rfl
  exact L4 _ (-1) 0 (by omega) (rkf_0) rfl
abbrev rm_M_bef1 : Room := { frames := 0, cells := 0, slots := 0, locals := 0 }
set_option maxHeartbeats 4000000 in
set_option maxRecDepth 100000 in
theorem c_M_bef1 (l : Launch) (D : va_G) (cA : ClassId) (y b1 b2 b3 b4 b5 b6 b7 : Nat) (f2 f3 X : Int → Int) (t n m i : Int) (hn : 0 ≤ n ∧ n ≤ 96) (hfX : ag f2 X n) (hbX : bt8 X n) (hfO : ag f3 (og X n) (n + 1)) (hi : 0 ≤ i ∧ i ≤ n) : xM l y_MO_before1 w_MO_before1 rm_M_bef1 D vwCl [(cA, .int)] [.ref y, .int (iI i)] [cO y 5 [.int (iI t), .ref b1, .int (iI n), .ref b2, .ref b3, .int (iI m), .ref b4, .ref b5, .ref b6, .ref b7], cR b2 cA 96 f2, cR b3 cA 97 f3] (fun r w => r = iI (ph (cX X n i)) ∧ w = [cO y 5 [.int (iI t), .ref b1, .int (iI n), .ref b2, .ref b3, .int (iI m), .ref b4, .ref b5, .ref b6, .ref b7], cR b2 cA 96 f2, cR b3 cA 97 f3]) 0 0 := by
  refine xM.ofI (by decide) rfl (Nat.le_of_ble_eq_true rfl) ?_
  intro P0 E0 S0 M0 A0 B0 T0 C0 AA QQ XX hnm ret
  refine g_aload_n XX d_MO_before1_0 rfl 0 rfl ?_
  refine g_get (C := R_MO) (T := T_MO) (N := 10) XX (tmw win0_MO) 0 rfl rfl 4 (by decide) (tm kw_112) rfl rfl d_MO_before1_1 ?_
  refine g_iload_n XX d_MO_before1_4 rfl 1 rfl ?_
  refine g_iald XX 2 0 rfl rfl ⟨by omega, by omega, by decide⟩ d_MO_before1_5 ?_
  have e1 := hfO i (by omega) (by omega)
  have g1 := og_rng (X := X) (n := n) (r := i) (by omega) (by omega)
  refine g_if_ne (tgt := 15) XX d_MO_before1_6 (by decide) ⟨by omega, by omega⟩ (fun h6 => ?_) (fun h6 => ?_)
  · -- 6: yes
    refine g_aload_n XX d_MO_before1_15 rfl 0 rfl ?_
    refine g_get (C := R_MO) (T := T_MO) (N := 10) XX (tmw win0_MO) 0 rfl rfl 3 (by decide) (tm kw_111) rfl rfl d_MO_before1_16 ?_
    refine g_aload_n XX d_MO_before1_19 rfl 0 rfl ?_
    refine g_get (C := R_MO) (T := T_MO) (N := 10) XX (tmw win0_MO) 0 rfl rfl 4 (by decide) (tm kw_112) rfl rfl d_MO_before1_20 ?_
    refine g_iload_n XX d_MO_before1_23 rfl 1 rfl ?_
    refine g_iald XX 2 0 rfl rfl ⟨by omega, by omega, by decide⟩ d_MO_before1_24 ?_
    refine g_iconst XX d_MO_before1_25 ?_
    refine g_isub XX d_MO_before1_26 ?_
    refine g_iald XX 1 0 rfl rfl ⟨by omega, by omega, by decide⟩ d_MO_before1_27 ?_
    exact ret _ _ _ _ [cO y 5 [.int (iI t), .ref b1, .int (iI n), .ref b2, .ref b3, .int (iI m), .ref b4, .ref b5, .ref b6, .ref b7], cR b2 cA 96 f2, cR b3 cA 97 f3] [0, 1, 2] d_MO_before1_28 (by decide) rfl (⟨by first | rw [phc_0 (by omega)] | rw [phc_1 hbX hi.1 hi.2 (by omega), e1, hfX (og X n i - 1) (by omega) (by omega)], rfl⟩)
  · -- 6: no
    refine g_sipush (v := 256) XX d_MO_before1_9 (by decide) ?_
    refine g_goto (tgt := 28) XX d_MO_before1_12 (by decide) ?_
    exact ret _ _ _ _ [cO y 5 [.int (iI t), .ref b1, .int (iI n), .ref b2, .ref b3, .int (iI m), .ref b4, .ref b5, .ref b6, .ref b7], cR b2 cA 96 f2, cR b3 cA 97 f3] [0, 1, 2] d_MO_before1_28 (by decide) rfl (⟨by first | rw [phc_0 (by omega)] | rw [phc_1 hbX hi.1 hi.2 (by omega), e1, hfX (og X n i - 1) (by omega) (by omega)], rfl⟩)
abbrev rm_M_column : Room := { frames := 1, cells := 0, slots := 0, locals := 21 }
set_option maxHeartbeats 4000000 in
set_option maxRecDepth 100000 in
theorem c_M_column (l : Launch) (D : va_G) (cA : ClassId) (y b1 b2 b3 b4 b5 b6 b7 : Nat) (f2 f3 X : Int → Int) (t n m i : Int) (hn : 0 ≤ n ∧ n ≤ 96) (hfX : ag f2 X n) (hbX : bt8 X n) (hfO : ag f3 (og X n) (n + 1)) (hi : -2147483648 ≤ i ∧ i < 2147483648) : xM l y_MO_column w_MO_column rm_M_column D vwCl [(cA, .int)] [.ref y, .int (iI i)] [cO y 5 [.int (iI t), .ref b1, .int (iI n), .ref b2, .ref b3, .int (iI m), .ref b4, .ref b5, .ref b6, .ref b7], cR b2 cA 96 f2, cR b3 cA 97 f3] (fun r w => r = iI (if 0 ≤ i ∧ i ≤ n then cX X n i else -1) ∧ w = [cO y 5 [.int (iI t), .ref b1, .int (iI n), .ref b2, .ref b3, .int (iI m), .ref b4, .ref b5, .ref b6, .ref b7], cR b2 cA 96 f2, cR b3 cA 97 f3]) 0 0 := by
  refine xM.ofI (by decide) rfl (Nat.le_of_ble_eq_true rfl) ?_
  intro P0 E0 S0 M0 A0 B0 T0 C0 AA QQ XX hnm ret
  refine g_iload_n XX d_MO_column_0 rfl 1 rfl ?_
  refine g_if_lt (tgt := 12) XX d_MO_column_1 (by decide) ⟨by omega, by omega⟩ (fun h1 => ?_) (fun h1 => ?_)
  · -- 1: yes
    have hz : ¬ (0 ≤ i ∧ i ≤ n) := by omega
    refine g_iconst XX d_MO_column_12 ?_
    exact ret _ _ _ _ [cO y 5 [.int (iI t), .ref b1, .int (iI n), .ref b2, .ref b3, .int (iI m), .ref b4, .ref b5, .ref b6, .ref b7], cR b2 cA 96 f2, cR b3 cA 97 f3] [0, 1, 2] d_MO_column_13 (by decide) rfl (⟨by rw [if_neg hz], rfl⟩)
  · -- 1: no
    refine g_iload_n XX d_MO_column_4 rfl 1 rfl ?_
    refine g_aload_n XX d_MO_column_5 rfl 0 rfl ?_
    refine g_get (C := R_MO) (T := T_MO) (N := 10) XX (tmw win0_MO) 0 rfl rfl 2 (by decide) (tm kw_119) rfl rfl d_MO_column_6 ?_
    refine g_icmp_le (tgt := 14) XX d_MO_column_9 (by decide) ⟨by omega, by omega⟩ ⟨by omega, by omega⟩ (fun h9 => ?_) (fun h9 => ?_)
    · -- 9: yes
      have hz : 0 ≤ i ∧ i ≤ n := by omega
      have hs := cX_sy (X := X) (n := n) (r := i) hbX (by omega) (by omega)
      have hp := ph_rng hs
      refine g_aload_n XX d_MO_column_14 rfl 0 rfl ?_
      refine g_iload_n XX d_MO_column_15 rfl 1 rfl ?_
      refine g_calli (As := [.int (iI i)]) (st := []) (wr := []) XX (c_M_bef1 l D cA y b1 b2 b3 b4 b5 b6 b7 f2 f3 X t n m i (by first | assumption | omega) (by first | assumption | omega) (by first | assumption | omega) (by first | assumption | omega) (by first | assumption | omega)) (x_cw 1 XX.2.2.2.2.1 (gi kw_137) rfl rfl (tm kw_123) (tm kw_138) (tm kw_139) (tm kw_140) ⟨by decide +kernel, by decide +kernel, by decide +kernel⟩ ⟨by decide, by decide⟩) [0, 1, 2] [] rfl rfl (by decide) (by decide) (by decide) 0 5 rfl rfl rfl rfl (Nat.le_of_ble_eq_true rfl) d_MO_column_16 ⟨by decide, by decide⟩ (fun r_ w_ hq => ?_)
      obtain ⟨rfl, rfl⟩ := hq
      show xG P0 l E0 rm_M_column S0 M0 A0 B0 T0 C0 QQ 2 D vwCl AA 0 0 [cO y 5 [.int (iI t), .ref b1, .int (iI n), .ref b2, .ref b3, .int (iI m), .ref b4, .ref b5, .ref b6, .ref b7], cR b2 cA 96 f2, cR b3 cA 97 f3] 19 [(0, .ref y), (1, .int (iI i))] [.int (iI (ph (cX X n i)))]
      refine g_sipush (v := 256) XX d_MO_column_19 (by decide) ?_
      refine g_icmp_ne (tgt := 30) XX d_MO_column_22 (by decide) ⟨by omega, by omega⟩ ⟨by omega, by omega⟩ (fun h22 => ?_) (fun h22 => ?_)
      · -- 22: yes
        refine g_aload_n XX d_MO_column_30 rfl 0 rfl ?_
        refine g_iload_n XX d_MO_column_31 rfl 1 rfl ?_
        refine g_calli (As := [.int (iI i)]) (st := []) (wr := []) XX (c_M_bef1 l D cA y b1 b2 b3 b4 b5 b6 b7 f2 f3 X t n m i (by first | assumption | omega) (by first | assumption | omega) (by first | assumption | omega) (by first | assumption | omega) (by first | assumption | omega)) (x_cw 1 XX.2.2.2.2.1 (gi kw_137) rfl rfl (tm kw_123) (tm kw_138) (tm kw_139) (tm kw_140) ⟨by decide +kernel, by decide +kernel, by decide +kernel⟩ ⟨by decide, by decide⟩) [0, 1, 2] [] rfl rfl (by decide) (by decide) (by decide) 0 5 rfl rfl rfl rfl (Nat.le_of_ble_eq_true rfl) d_MO_column_32 ⟨by decide, by decide⟩ (fun r_ w_ hq => ?_)
        obtain ⟨rfl, rfl⟩ := hq
        show xG P0 l E0 rm_M_column S0 M0 A0 B0 T0 C0 QQ 2 D vwCl AA 0 0 [cO y 5 [.int (iI t), .ref b1, .int (iI n), .ref b2, .ref b3, .int (iI m), .ref b4, .ref b5, .ref b6, .ref b7], cR b2 cA 96 f2, cR b3 cA 97 f3] 35 [(0, .ref y), (1, .int (iI i))] [.int (iI (ph (cX X n i)))]
        exact ret _ _ _ _ [cO y 5 [.int (iI t), .ref b1, .int (iI n), .ref b2, .ref b3, .int (iI m), .ref b4, .ref b5, .ref b6, .ref b7], cR b2 cA 96 f2, cR b3 cA 97 f3] [0, 1, 2] d_MO_column_35 (by decide) rfl (⟨by first | rw [if_pos hz, ph_none hs h22] | rw [if_pos hz, ph_some h22], rfl⟩)
      · -- 22: no
        refine g_bipush (v := -2) XX d_MO_column_25 (by decide) ?_
        refine g_goto (tgt := 35) XX d_MO_column_27 (by decide) ?_
        exact ret _ _ _ _ [cO y 5 [.int (iI t), .ref b1, .int (iI n), .ref b2, .ref b3, .int (iI m), .ref b4, .ref b5, .ref b6, .ref b7], cR b2 cA 96 f2, cR b3 cA 97 f3] [0, 1, 2] d_MO_column_35 (by decide) rfl (⟨by first | rw [if_pos hz, ph_none hs h22] | rw [if_pos hz, ph_some h22], rfl⟩)
    · -- 9: no
      have hz : ¬ (0 ≤ i ∧ i ≤ n) := by omega
      refine g_iconst XX d_MO_column_12 ?_
      exact ret _ _ _ _ [cO y 5 [.int (iI t), .ref b1, .int (iI n), .ref b2, .ref b3, .int (iI m), .ref b4, .ref b5, .ref b6, .ref b7], cR b2 cA 96 f2, cR b3 cA 97 f3] [0, 1, 2] d_MO_column_13 (by decide) rfl (⟨by rw [if_neg hz], rfl⟩)
abbrev rm_M_common : Room := { frames := 1, cells := 0, slots := 0, locals := 23 }
set_option maxHeartbeats 4000000 in
set_option maxRecDepth 100000 in
theorem c_M_common (l : Launch) (D : va_G) (cA : ClassId) (y b1 b2 b3 b4 b5 b6 b7 : Nat) (f2 f3 X : Int → Int) (t n m i : Int) (hn : 0 ≤ n ∧ n ≤ 96) (hfX : ag f2 X n) (hbX : bt8 X n) (hfO : ag f3 (og X n) (n + 1)) (hi : -2147483648 ≤ i ∧ i < 2147483648) : xM l y_MO_common w_MO_common rm_M_common D vwCl [(cA, .int)] [.ref y, .int (iI i)] [cO y 5 [.int (iI t), .ref b1, .int (iI n), .ref b2, .ref b3, .int (iI m), .ref b4, .ref b5, .ref b6, .ref b7], cR b2 cA 96 f2, cR b3 cA 97 f3] (fun r w => r = iI (if 0 ≤ i ∧ i < n then cm X n i else -1) ∧ w = [cO y 5 [.int (iI t), .ref b1, .int (iI n), .ref b2, .ref b3, .int (iI m), .ref b4, .ref b5, .ref b6, .ref b7], cR b2 cA 96 f2, cR b3 cA 97 f3]) 0 0 := by
  refine xM.ofI (by decide) rfl (Nat.le_of_ble_eq_true rfl) ?_
  intro P0 E0 S0 M0 A0 B0 T0 C0 AA QQ XX hnm ret
  refine g_iload_n XX d_MO_common_0 rfl 1 rfl ?_
  refine g_if_lt (tgt := 33) XX d_MO_common_1 (by decide) ⟨by omega, by omega⟩ (fun h1 => ?_) (fun h1 => ?_)
  · -- 1: yes
    have hz : ¬ (0 ≤ i ∧ i < n) := by omega
    refine g_iconst XX d_MO_common_33 ?_
    exact ret _ _ _ _ [cO y 5 [.int (iI t), .ref b1, .int (iI n), .ref b2, .ref b3, .int (iI m), .ref b4, .ref b5, .ref b6, .ref b7], cR b2 cA 96 f2, cR b3 cA 97 f3] [0, 1, 2] d_MO_common_34 (by decide) rfl (⟨by first | (rw [if_pos hz, e1, e2]; rfl) | rw [if_neg hz], rfl⟩)
  · -- 1: no
    refine g_iload_n XX d_MO_common_4 rfl 1 rfl ?_
    refine g_aload_n XX d_MO_common_5 rfl 0 rfl ?_
    refine g_get (C := R_MO) (T := T_MO) (N := 10) XX (tmw win0_MO) 0 rfl rfl 2 (by decide) (tm kw_119) rfl rfl d_MO_common_6 ?_
    refine g_icmp_ge (tgt := 33) XX d_MO_common_9 (by decide) ⟨by omega, by omega⟩ ⟨by omega, by omega⟩ (fun h9 => ?_) (fun h9 => ?_)
    · -- 9: yes
      have hz : ¬ (0 ≤ i ∧ i < n) := by omega
      refine g_iconst XX d_MO_common_33 ?_
      exact ret _ _ _ _ [cO y 5 [.int (iI t), .ref b1, .int (iI n), .ref b2, .ref b3, .int (iI m), .ref b4, .ref b5, .ref b6, .ref b7], cR b2 cA 96 f2, cR b3 cA 97 f3] [0, 1, 2] d_MO_common_34 (by decide) rfl (⟨by first | (rw [if_pos hz, e1, e2]; rfl) | rw [if_neg hz], rfl⟩)
    · -- 9: no
      refine g_aload_n XX d_MO_common_12 rfl 0 rfl ?_
      refine g_aload_n XX d_MO_common_13 rfl 0 rfl ?_
      refine g_get (C := R_MO) (T := T_MO) (N := 10) XX (tmw win0_MO) 0 rfl rfl 4 (by decide) (tm kw_112) rfl rfl d_MO_common_14 ?_
      refine g_iload_n XX d_MO_common_17 rfl 1 rfl ?_
      refine g_iald XX 2 0 rfl rfl ⟨by omega, by omega, by decide⟩ d_MO_common_18 ?_
      refine g_aload_n XX d_MO_common_19 rfl 0 rfl ?_
      refine g_get (C := R_MO) (T := T_MO) (N := 10) XX (tmw win0_MO) 0 rfl rfl 4 (by decide) (tm kw_112) rfl rfl d_MO_common_20 ?_
      refine g_iload_n XX d_MO_common_23 rfl 1 rfl ?_
      refine g_iconst XX d_MO_common_24 ?_
      refine g_iadd XX d_MO_common_25 ?_
      refine g_iald XX 2 0 rfl rfl ⟨by omega, by omega, by decide⟩ d_MO_common_26 ?_
      have e1 := hfO i (by omega) (by omega)
      have e2 := hfO (i + 1) (by omega) (by omega)
      have g1 := og_rng (X := X) (n := n) (r := i) (by omega) (by omega)
      have g2 := og_rng (X := X) (n := n) (r := i + 1) (by omega) (by omega)
      have hz : 0 ≤ i ∧ i < n := by omega
      refine g_calli (As := [.int (iI (f3 i)), .int (iI (f3 (i + 1)))]) (st := []) (wr := [cR b3 cA 97 f3]) XX (c_M_alike l D cA y b1 b2 b3 b4 b5 b6 b7 f2 X t n m (f3 i) (f3 (i + 1)) (by first | assumption | omega) (by first | assumption | omega) (by first | assumption | omega) (by first | assumption | omega)) (x_cw 2 XX.2.2.2.2.1 (gi kw_120) rfl rfl (tm kw_123) (tm kw_121) (tm kw_122) (tm kw_124) ⟨by decide +kernel, by decide +kernel, by decide +kernel⟩ ⟨by decide, by decide⟩) [0, 1] [2] rfl rfl (by decide) (by decide) (by decide) 0 5 rfl rfl rfl rfl (Nat.le_of_ble_eq_true rfl) d_MO_common_27 ⟨by decide, by decide⟩ (fun r_ w_ hq => ?_)
      obtain ⟨rfl, rfl⟩ := hq
      show xG P0 l E0 rm_M_common S0 M0 A0 B0 T0 C0 QQ 2 D vwCl AA 0 0 [cR b3 cA 97 f3, cO y 5 [.int (iI t), .ref b1, .int (iI n), .ref b2, .ref b3, .int (iI m), .ref b4, .ref b5, .ref b6, .ref b7], cR b2 cA 96 f2] 30 [(0, .ref y), (1, .int (iI i))] [.int (iI (al X n X n (f3 i) (f3 (i + 1))))]
      refine g_goto (tgt := 34) XX d_MO_common_30 (by decide) ?_
      exact ret _ _ _ _ [cO y 5 [.int (iI t), .ref b1, .int (iI n), .ref b2, .ref b3, .int (iI m), .ref b4, .ref b5, .ref b6, .ref b7], cR b2 cA 96 f2, cR b3 cA 97 f3] [1, 2, 0] d_MO_common_34 (by decide) rfl (⟨by first | (rw [if_pos hz, e1, e2]; rfl) | rw [if_neg hz], rfl⟩)
