abbrev rm_CX_stands : Room := { frames := 2, cells := 0, slots := 0, locals := 46 }
set_option maxHeartbeats 4000000 in
set_option maxRecDepth 100000 in
theorem c_CX_stands (l : Launch) (D : va_G) (cA : ClassId) (x hT hX hP hO hF hR : Nat) (aX aP : Nat) (fX X fP Pt : Int → Int) (n m i : Int) (hn : 0 ≤ n ∧ n ≤ 96) (hm : 0 ≤ m ∧ m ≤ 96) (hfX : ag fX X n) (hbX : bt8 X n) (hfP : ag fP Pt m) (hbP : bt8 Pt m) (hi : 0 ≤ i ∧ i ≤ n) : xM l y_CX_patternStandsAt w_CX_patternStandsAt rm_CX_stands D vwCl [(cA, .int)] [.ref x, .int (iI i)] [cO x 4 [.ref hT, .ref hX, .ref hP, .ref hO, .ref hF, .ref hR], cO hX 0 [.ref aX, .int (iI n)], cR aX cA 96 fX, cO hP 0 [.ref aP, .int (iI m)], cR aP cA 96 fP] (fun r w => r = iI (if htb Pt m X n i then 1 else 0) ∧ w = [cO x 4 [.ref hT, .ref hX, .ref hP, .ref hO, .ref hF, .ref hR], cO hX 0 [.ref aX, .int (iI n)], cR aX cA 96 fX, cO hP 0 [.ref aP, .int (iI m)], cR aP cA 96 fP]) 0 0 := by
  refine xM.ofZ (by decide) rfl (Nat.le_of_ble_eq_true rfl) ?_
  intro P0 E0 S0 M0 A0 B0 T0 C0 AA QQ XX hnm ret
  refine g_aload_n XX d_CX_patternStandsAt_0 rfl 0 rfl ?_
  refine g_get (C := R_CX) (T := T_CX) (N := 6) XX (tmw win0_CX) 0 rfl rfl 2 (by decide) (tm kw_11) rfl rfl d_CX_patternStandsAt_1 ?_
  refine g_iconst XX d_CX_patternStandsAt_4 ?_
  refine g_aload_n XX d_CX_patternStandsAt_5 rfl 0 rfl ?_
  refine g_get (C := R_CX) (T := T_CX) (N := 6) XX (tmw win0_CX) 0 rfl rfl 1 (by decide) (tm kw_10) rfl rfl d_CX_patternStandsAt_6 ?_
  refine g_iload_n XX d_CX_patternStandsAt_9 rfl 1 rfl ?_
  refine g_calli (As := [.int (iI 0), .ref hX, .int (iI i)]) (st := []) (wr := [cO x 4 [.ref hT, .ref hX, .ref hP, .ref hO, .ref hF, .ref hR]]) XX (c_BR_alike l D cA hP aP hX aX fP fX Pt X m n 0 i (by first | assumption | omega) (by first | assumption | omega) (by first | assumption | omega) (by first | assumption | omega) (by first | assumption | omega) (by first | assumption | omega) (by first | assumption | omega)) (x_cw 3 XX.2.2.2.2.1 (gi kw_81) rfl rfl (tm kw_5) (tm kw_82) (tm kw_83) (tm kw_84) ⟨by decide +kernel, by decide +kernel, by decide +kernel⟩ ⟨by decide, by decide⟩) [3, 4, 1, 2] [0] rfl rfl (by decide) (by decide) (by decide) 3 0 rfl rfl rfl rfl (Nat.le_of_ble_eq_true rfl) d_CX_patternStandsAt_10 ⟨by decide, by decide⟩ (fun r_ w_ hq => ?_)
  obtain ⟨rfl, rfl⟩ := hq
  show xG P0 l E0 rm_CX_stands S0 M0 A0 B0 T0 C0 QQ 2 D vwCl AA 0 0 [cO x 4 [.ref hT, .ref hX, .ref hP, .ref hO, .ref hF, .ref hR], cO hP 0 [.ref aP, .int (iI m)], cR aP cA 96 fP, cO hX 0 [.ref aX, .int (iI n)], cR aX cA 96 fX] 13 [(0, .ref x), (1, .int (iI i))] [.int (iI (al Pt m X n 0 i))]
  refine g_aload_n XX d_CX_patternStandsAt_13 rfl 0 rfl ?_
  refine g_get (C := R_CX) (T := T_CX) (N := 6) XX (tmw win0_CX) 0 rfl rfl 2 (by decide) (tm kw_11) rfl rfl d_CX_patternStandsAt_14 ?_
  refine g_get (C := R_BR) (T := T_BR) (N := 2) XX (tmw win0_BR) 1 rfl rfl 1 (by decide) (tm kw_33) rfl rfl d_CX_patternStandsAt_17 ?_
  have g := al_rng (f := Pt) (n := m) (g := X) (m := n) (p := 0) (q := i) (by omega) (by omega)
  refine g_icmp_ne (tgt := 27) XX d_CX_patternStandsAt_20 (by decide) ⟨by omega, by omega⟩ ⟨by omega, by omega⟩ (fun h20 => ?_) (fun h20 => ?_)
  · -- 20: yes
    have hz : htb Pt m X n i = false := by simp only [htb, decide_eq_false_iff_not]; omega
    refine g_iconst XX d_CX_patternStandsAt_27 ?_
    exact ret _ _ _ _ [cO x 4 [.ref hT, .ref hX, .ref hP, .ref hO, .ref hF, .ref hR], cO hX 0 [.ref aX, .int (iI n)], cR aX cA 96 fX, cO hP 0 [.ref aP, .int (iI m)], cR aP cA 96 fP] [0, 3, 4, 1, 2] (by first | exact Or.inl rfl | exact Or.inr rfl) d_CX_patternStandsAt_28 (by decide) rfl (⟨by rw [hz]; rfl, rfl⟩)
  · -- 20: no
    have hz : htb Pt m X n i = true := by simp only [htb, decide_eq_true_eq]; omega
    refine g_iconst XX d_CX_patternStandsAt_23 ?_
    refine g_goto (tgt := 28) XX d_CX_patternStandsAt_24 (by decide) ?_
    exact ret _ _ _ _ [cO x 4 [.ref hT, .ref hX, .ref hP, .ref hO, .ref hF, .ref hR], cO hX 0 [.ref aX, .int (iI n)], cR aX cA 96 fX, cO hP 0 [.ref aP, .int (iI m)], cR aP cA 96 fP] [0, 3, 4, 1, 2] (by first | exact Or.inl rfl | exact Or.inr rfl) d_CX_patternStandsAt_28 (by decide) rfl (⟨by rw [hz]; rfl, rfl⟩)
abbrev rm_CX_comes : Room := { frames := 2, cells := 0, slots := 0, locals := 46 }
set_option maxHeartbeats 4000000 in
set_option maxRecDepth 100000 in
theorem c_CX_comes (l : Launch) (D : va_G) (cA : ClassId) (x hT hX hP hO hF hR : Nat) (aX aP : Nat) (fX X fP Pt : Int → Int) (n m i : Int) (hn : 0 ≤ n ∧ n ≤ 96) (hm : 0 ≤ m ∧ m ≤ 96) (hfX : ag fX X n) (hbX : bt8 X n) (hfP : ag fP Pt m) (hbP : bt8 Pt m) (hi : 0 ≤ i ∧ i ≤ n) : xM l y_CX_comesBeforePattern w_CX_comesBeforePattern rm_CX_comes D vwCl [(cA, .int)] [.ref x, .int (iI i)] [cO x 4 [.ref hT, .ref hX, .ref hP, .ref hO, .ref hF, .ref hR], cO hX 0 [.ref aX, .int (iI n)], cR aX cA 96 fX, cO hP 0 [.ref aP, .int (iI m)], cR aP cA 96 fP] (fun r w => r = iI (if bfb Pt m X n i then 1 else 0) ∧ w = [cO x 4 [.ref hT, .ref hX, .ref hP, .ref hO, .ref hF, .ref hR], cO hX 0 [.ref aX, .int (iI n)], cR aX cA 96 fX, cO hP 0 [.ref aP, .int (iI m)], cR aP cA 96 fP]) 0 0 := by
  refine xM.ofZ (by decide) rfl (Nat.le_of_ble_eq_true rfl) ?_
  intro P0 E0 S0 M0 A0 B0 T0 C0 AA QQ XX hnm ret
  refine g_aload_n XX d_CX_comesBeforePattern_0 rfl 0 rfl ?_
  refine g_get (C := R_CX) (T := T_CX) (N := 6) XX (tmw win0_CX) 0 rfl rfl 2 (by decide) (tm kw_11) rfl rfl d_CX_comesBeforePattern_1 ?_
  refine g_iconst XX d_CX_comesBeforePattern_4 ?_
  refine g_aload_n XX d_CX_comesBeforePattern_5 rfl 0 rfl ?_
  refine g_get (C := R_CX) (T := T_CX) (N := 6) XX (tmw win0_CX) 0 rfl rfl 1 (by decide) (tm kw_10) rfl rfl d_CX_comesBeforePattern_6 ?_
  refine g_iload_n XX d_CX_comesBeforePattern_9 rfl 1 rfl ?_
  refine g_calli (As := [.int (iI 0), .ref hX, .int (iI i)]) (st := []) (wr := [cO x 4 [.ref hT, .ref hX, .ref hP, .ref hO, .ref hF, .ref hR]]) XX (c_BR_alike l D cA hP aP hX aX fP fX Pt X m n 0 i (by first | assumption | omega) (by first | assumption | omega) (by first | assumption | omega) (by first | assumption | omega) (by first | assumption | omega) (by first | assumption | omega) (by first | assumption | omega)) (x_cw 3 XX.2.2.2.2.1 (gi kw_81) rfl rfl (tm kw_5) (tm kw_82) (tm kw_83) (tm kw_84) ⟨by decide +kernel, by decide +kernel, by decide +kernel⟩ ⟨by decide, by decide⟩) [3, 4, 1, 2] [0] rfl rfl (by decide) (by decide) (by decide) 3 0 rfl rfl rfl rfl (Nat.le_of_ble_eq_true rfl) d_CX_comesBeforePattern_10 ⟨by decide, by decide⟩ (fun r_ w_ hq => ?_)
  obtain ⟨rfl, rfl⟩ := hq
  show xG P0 l E0 rm_CX_comes S0 M0 A0 B0 T0 C0 QQ 4 D vwCl AA 0 0 [cO x 4 [.ref hT, .ref hX, .ref hP, .ref hO, .ref hF, .ref hR], cO hP 0 [.ref aP, .int (iI m)], cR aP cA 96 fP, cO hX 0 [.ref aX, .int (iI n)], cR aX cA 96 fX] 13 [(0, .ref x), (1, .int (iI i))] [.int (iI (al Pt m X n 0 i))]
  refine g_istore_n (lv' := [(2, .int (iI (al Pt m X n 0 i))), (0, .ref x), (1, .int (iI i))]) XX d_CX_comesBeforePattern_13 rfl (by decide) rfl ?_
  have g := al_rng (f := Pt) (n := m) (g := X) (m := n) (p := 0) (q := i) (by omega) (by omega)
  refine g_iload_n XX d_CX_comesBeforePattern_14 rfl 0 rfl ?_
  refine g_aload_n XX d_CX_comesBeforePattern_15 rfl 1 rfl ?_
  refine g_get (C := R_CX) (T := T_CX) (N := 6) XX (tmw win0_CX) 0 rfl rfl 2 (by decide) (tm kw_11) rfl rfl d_CX_comesBeforePattern_16 ?_
  refine g_get (C := R_BR) (T := T_BR) (N := 2) XX (tmw win0_BR) 1 rfl rfl 1 (by decide) (tm kw_33) rfl rfl d_CX_comesBeforePattern_19 ?_
  refine g_icmp_ne (tgt := 27) XX d_CX_comesBeforePattern_22 (by decide) ⟨by omega, by omega⟩ ⟨by omega, by omega⟩ (fun h22 => ?_) (fun h22 => ?_)
  · -- 22: yes
    refine g_iload_n XX d_CX_comesBeforePattern_27 rfl 2 rfl ?_
    refine g_iload_n XX d_CX_comesBeforePattern_28 rfl 0 rfl ?_
    refine g_iadd XX d_CX_comesBeforePattern_29 ?_
    refine g_istore_n (lv' := [(3, .int (iI (i + (al Pt m X n 0 i)))), (2, .int (iI (al Pt m X n 0 i))), (0, .ref x), (1, .int (iI i))]) XX d_CX_comesBeforePattern_30 rfl (by decide) rfl ?_
    refine g_iload_n XX d_CX_comesBeforePattern_31 rfl 0 rfl ?_
    refine g_aload_n XX d_CX_comesBeforePattern_32 rfl 2 rfl ?_
    refine g_get (C := R_CX) (T := T_CX) (N := 6) XX (tmw win0_CX) 0 rfl rfl 1 (by decide) (tm kw_10) rfl rfl d_CX_comesBeforePattern_33 ?_
    refine g_get (C := R_BR) (T := T_BR) (N := 2) XX (tmw win0_BR) 3 rfl rfl 1 (by decide) (tm kw_33) rfl rfl d_CX_comesBeforePattern_36 ?_
    refine g_icmp_eq (tgt := 63) XX d_CX_comesBeforePattern_39 (by decide) ⟨by omega, by omega⟩ ⟨by omega, by omega⟩ (fun h39 => ?_) (fun h39 => ?_)
    · -- 39: yes
      have hz : bfb Pt m X n i = true := by simp only [bfb, decide_eq_true_eq]; omega
      refine g_iconst XX d_CX_comesBeforePattern_63 ?_
      refine g_goto (tgt := 68) XX d_CX_comesBeforePattern_64 (by decide) ?_
      exact ret _ _ _ _ [cO x 4 [.ref hT, .ref hX, .ref hP, .ref hO, .ref hF, .ref hR], cO hX 0 [.ref aX, .int (iI n)], cR aX cA 96 fX, cO hP 0 [.ref aP, .int (iI m)], cR aP cA 96 fP] [0, 3, 4, 1, 2] (by first | exact Or.inl rfl | exact Or.inr rfl) d_CX_comesBeforePattern_68 (by decide) rfl (⟨by rw [hz]; rfl, rfl⟩)
    · -- 39: no
      refine g_aload_n XX d_CX_comesBeforePattern_42 rfl 2 rfl ?_
      refine g_get (C := R_CX) (T := T_CX) (N := 6) XX (tmw win0_CX) 0 rfl rfl 1 (by decide) (tm kw_10) rfl rfl d_CX_comesBeforePattern_43 ?_
      refine g_get (C := R_BR) (T := T_BR) (N := 2) XX (tmw win0_BR) 3 rfl rfl 0 (by decide) (tm kw_51) rfl rfl d_CX_comesBeforePattern_46 ?_
      refine g_iload_n XX d_CX_comesBeforePattern_49 rfl 0 rfl ?_
      refine g_iald XX 4 0 rfl rfl ⟨by omega, by omega, by decide⟩ d_CX_comesBeforePattern_50 ?_
      refine g_aload_n XX d_CX_comesBeforePattern_51 rfl 2 rfl ?_
      refine g_get (C := R_CX) (T := T_CX) (N := 6) XX (tmw win0_CX) 0 rfl rfl 2 (by decide) (tm kw_11) rfl rfl d_CX_comesBeforePattern_52 ?_
      refine g_get (C := R_BR) (T := T_BR) (N := 2) XX (tmw win0_BR) 1 rfl rfl 0 (by decide) (tm kw_51) rfl rfl d_CX_comesBeforePattern_55 ?_
      refine g_iload_n XX d_CX_comesBeforePattern_58 rfl 1 rfl ?_
      refine g_iald XX 2 0 rfl rfl ⟨by omega, by omega, by decide⟩ d_CX_comesBeforePattern_59 ?_
      have e1 := hfX (i + al Pt m X n 0 i) (by omega) (by omega)
      have e2 := hfP (al Pt m X n 0 i) (by omega) (by omega)
      have b1 := hbX (i + al Pt m X n 0 i) (by omega) (by omega)
      have b2 := hbP (al Pt m X n 0 i) (by omega) (by omega)
      refine g_icmp_ge (tgt := 67) XX d_CX_comesBeforePattern_60 (by decide) ⟨by omega, by omega⟩ ⟨by omega, by omega⟩ (fun h60 => ?_) (fun h60 => ?_)
      · -- 60: yes
        have hz : bfb Pt m X n i = false := by simp only [bfb, decide_eq_false_iff_not]; omega
        refine g_iconst XX d_CX_comesBeforePattern_67 ?_
        exact ret _ _ _ _ [cO x 4 [.ref hT, .ref hX, .ref hP, .ref hO, .ref hF, .ref hR], cO hX 0 [.ref aX, .int (iI n)], cR aX cA 96 fX, cO hP 0 [.ref aP, .int (iI m)], cR aP cA 96 fP] [0, 3, 4, 1, 2] (by first | exact Or.inl rfl | exact Or.inr rfl) d_CX_comesBeforePattern_68 (by decide) rfl (⟨by rw [hz]; rfl, rfl⟩)
      · -- 60: no
        have hz : bfb Pt m X n i = true := by simp only [bfb, decide_eq_true_eq]; omega
        refine g_iconst XX d_CX_comesBeforePattern_63 ?_
        refine g_goto (tgt := 68) XX d_CX_comesBeforePattern_64 (by decide) ?_
        exact ret _ _ _ _ [cO x 4 [.ref hT, .ref hX, .ref hP, .ref hO, .ref hF, .ref hR], cO hX 0 [.ref aX, .int (iI n)], cR aX cA 96 fX, cO hP 0 [.ref aP, .int (iI m)], cR aP cA 96 fP] [0, 3, 4, 1, 2] (by first | exact Or.inl rfl | exact Or.inr rfl) d_CX_comesBeforePattern_68 (by decide) rfl (⟨by rw [hz]; rfl, rfl⟩)
  · -- 22: no
    have hz : bfb Pt m X n i = false := by simp only [bfb, decide_eq_false_iff_not]; omega
    refine g_iconst XX d_CX_comesBeforePattern_25 ?_
    exact ret _ _ _ _ [cO x 4 [.ref hT, .ref hX, .ref hP, .ref hO, .ref hF, .ref hR], cO hX 0 [.ref aX, .int (iI n)], cR aX cA 96 fX, cO hP 0 [.ref aP, .int (iI m)], cR aP cA 96 fP] [0, 3, 4, 1, 2] (by first | exact Or.inl rfl | exact Or.inr rfl) d_CX_comesBeforePattern_26 (by decide) rfl (⟨by rw [hz]; rfl, rfl⟩)
abbrev rm_CX_count : Room := { frames := 3, cells := 0, slots := 0, locals := 67 }
set_option maxHeartbeats 4000000 in
set_option maxRecDepth 100000 in
theorem c_CX_count (l : Launch) (D : va_G) (cA : ClassId) (x hT hX hP hO hF hR : Nat) (aX aP : Nat) (fX X fP Pt : Int → Int) (n m : Int) (hn : 0 ≤ n ∧ n ≤ 96) (hm : 0 ≤ m ∧ m ≤ 96) (hfX : ag fX X n) (hbX : bt8 X n) (hfP : ag fP Pt m) (hbP : bt8 Pt m) : xM l y_CX_countHits w_CX_countHits rm_CX_count D vwCl [(cA, .int)] [.ref x] [cO x 4 [.ref hT, .ref hX, .ref hP, .ref hO, .ref hF, .ref hR], cO hX 0 [.ref aX, .int (iI n)], cR aX cA 96 fX, cO hP 0 [.ref aP, .int (iI m)], cR aP cA 96 fP] (fun r w => r = iI (cnt (htb Pt m X n) (n + 1)) ∧ w = [cO x 4 [.ref hT, .ref hX, .ref hP, .ref hO, .ref hF, .ref hR], cO hX 0 [.ref aX, .int (iI n)], cR aX cA 96 fX, cO hP 0 [.ref aP, .int (iI m)], cR aP cA 96 fP]) 0 0 := by
  refine xM.ofI (by decide) rfl (Nat.le_of_ble_eq_true rfl) ?_
  intro P0 E0 S0 M0 A0 B0 T0 C0 AA QQ XX hnm ret
  refine g_iconst XX d_CX_countHits_0 ?_
  refine g_istore_n (lv' := [(1, .int (iI 0)), (0, .ref x)]) XX d_CX_countHits_1 rfl (by decide) rfl ?_
  refine g_iconst XX d_CX_countHits_2 ?_
  refine g_istore_n (lv' := [(2, .int (iI 0)), (1, .int (iI 0)), (0, .ref x)]) XX d_CX_countHits_3 rfl (by decide) rfl ?_
  have L4 : ∀ (k_4 : Nat) (c0 : Int) (p0 : Int), (0 ≤ p0 ∧ p0 ≤ n + 1) → (c0 = cnt (htb Pt m X n) p0) → (n + 1 - p0).toNat = k_4 → xG P0 l E0 rm_CX_count S0 M0 A0 B0 T0 C0 QQ 3 D vwCl AA 0 0 [cO x 4 [.ref hT, .ref hX, .ref hP, .ref hO, .ref hF, .ref hR], cO hX 0 [.ref aX, .int (iI n)], cR aX cA 96 fX, cO hP 0 [.ref aP, .int (iI m)], cR aP cA 96 fP] 4 [(2, .int (iI p0)), (1, .int (iI c0)), (0, .ref x)] [] := by
    refine x_ind (fun k_4 ih_4 c0 p0 h1 h2 hk_4 => ?_)
    refine g_iload_n XX d_CX_countHits_4 rfl 0 rfl ?_
    refine g_aload_n XX d_CX_countHits_5 rfl 2 rfl ?_
    refine g_get (C := R_CX) (T := T_CX) (N := 6) XX (tmw win0_CX) 0 rfl rfl 1 (by decide) (tm kw_10) rfl rfl d_CX_countHits_6 ?_
    refine g_get (C := R_BR) (T := T_BR) (N := 2) XX (tmw win0_BR) 1 rfl rfl 1 (by decide) (tm kw_33) rfl rfl d_CX_countHits_9 ?_
    refine g_icmp_gt (tgt := 32) XX d_CX_countHits_12 (by decide) ⟨by omega, by omega⟩ ⟨by omega, by omega⟩ (fun h12 => ?_) (fun h12 => ?_)
    · -- 12: yes
      refine g_iload_n XX d_CX_countHits_32 rfl 1 rfl ?_
      exact ret _ _ _ _ [cO x 4 [.ref hT, .ref hX, .ref hP, .ref hO, .ref hF, .ref hR], cO hX 0 [.ref aX, .int (iI n)], cR aX cA 96 fX, cO hP 0 [.ref aP, .int (iI m)], cR aP cA 96 fP] [0, 1, 2, 3, 4] d_CX_countHits_33 (by decide) rfl (⟨by rw [h2, show p0 = n + 1 by omega], rfl⟩)
    · -- 12: no
      refine g_aload_n XX d_CX_countHits_15 rfl 2 rfl ?_
      refine g_iload_n XX d_CX_countHits_16 rfl 0 rfl ?_
      refine g_calli (As := [.int (iI p0)]) (st := []) (wr := []) XX (c_CX_stands l D cA x hT hX hP hO hF hR aX aP fX X fP Pt n m p0 (by first | assumption | omega) (by first | assumption | omega) (by first | assumption | omega) (by first | assumption | omega) (by first | assumption | omega) (by first | assumption | omega) (by first | assumption | omega)) (x_cw 1 XX.2.2.2.2.1 (gi kw_77) rfl rfl (tm kw_49) (tm kw_78) (tm kw_79) (tm kw_80) ⟨by decide +kernel, by decide +kernel, by decide +kernel⟩ ⟨by decide, by decide⟩) [0, 1, 2, 3, 4] [] rfl rfl (by decide) (by decide) (by decide) 0 4 rfl rfl rfl rfl (Nat.le_of_ble_eq_true rfl) d_CX_countHits_17 ⟨by decide, by decide⟩ (fun r_ w_ hq => ?_)
      obtain ⟨rfl, rfl⟩ := hq
      show xG P0 l E0 rm_CX_count S0 M0 A0 B0 T0 C0 QQ 3 D vwCl AA 0 0 [cO x 4 [.ref hT, .ref hX, .ref hP, .ref hO, .ref hF, .ref hR], cO hX 0 [.ref aX, .int (iI n)], cR aX cA 96 fX, cO hP 0 [.ref aP, .int (iI m)], cR aP cA 96 fP] 20 [(2, .int (iI p0)), (1, .int (iI c0)), (0, .ref x)] [.int (iI (if htb Pt m X n p0 then 1 else 0))]
      refine g_if_eq (tgt := 26) XX d_CX_countHits_20 (by decide) z01 (fun h20 => ?_) (fun h20 => ?_)
      · -- 20: yes
        refine g_iinc (lv' := [(2, .int (iI (p0 + 1))), (1, .int (iI c0)), (0, .ref x)]) XX d_CX_countHits_26 0 rfl (by decide) rfl ?_
        refine g_goto (tgt := 4) XX d_CX_countHits_29 (by decide) ?_
        exact ih_4 _ (by omega) c0 (p0 + 1) (by omega) (by first | (rw [h2, cnt_y (by omega) (z01_1 h20)]; done) | (rw [cnt_n (by omega) (z01_0 h20)]; exact h2)) rfl
      · -- 20: no
        refine g_iinc (lv' := [(1, .int (iI (c0 + 1))), (2, .int (iI p0)), (0, .ref x)]) XX d_CX_countHits_23 1 rfl (by decide) rfl ?_
        refine g_iinc (lv' := [(2, .int (iI (p0 + 1))), (1, .int (iI (c0 + 1))), (0, .ref x)]) XX d_CX_countHits_26 1 rfl (by decide) rfl ?_
        refine g_goto (tgt := 4) XX d_CX_countHits_29 (by decide) ?_
        exact ih_4 _ (by omega) (c0 + 1) (p0 + 1) (by omega) (by first | (rw [h2, cnt_y (by omega) (z01_1 h20)]; done) | (rw [cnt_n (by omega) (z01_0 h20)]; exact h2)) rfl
  exact L4 _ 0 0 (by omega) ((cnt_0 (by omega)).symm) rfl
abbrev rm_CX_before : Room := { frames := 3, cells := 0, slots := 0, locals := 69 }
set_option maxHeartbeats 4000000 in
set_option maxRecDepth 100000 in
theorem c_CX_before (l : Launch) (D : va_G) (cA : ClassId) (x hT hX hP hO hF hR : Nat) (aX aP : Nat) (fX X fP Pt : Int → Int) (n m : Int) (hn : 0 ≤ n ∧ n ≤ 96) (hm : 0 ≤ m ∧ m ≤ 96) (hfX : ag fX X n) (hbX : bt8 X n) (hfP : ag fP Pt m) (hbP : bt8 Pt m) : xM l y_CX_before w_CX_before rm_CX_before D vwCl [(cA, .int)] [.ref x] [cO x 4 [.ref hT, .ref hX, .ref hP, .ref hO, .ref hF, .ref hR], cO hX 0 [.ref aX, .int (iI n)], cR aX cA 96 fX, cO hP 0 [.ref aP, .int (iI m)], cR aP cA 96 fP] (fun r w => r = iI (cnt (bfb Pt m X n) (n + 1)) ∧ w = [cO x 4 [.ref hT, .ref hX, .ref hP, .ref hO, .ref hF, .ref hR], cO hX 0 [.ref aX, .int (iI n)], cR aX cA 96 fX, cO hP 0 [.ref aP, .int (iI m)], cR aP cA 96 fP]) 0 0 := by
  refine xM.ofI (by decide) rfl (Nat.le_of_ble_eq_true rfl) ?_
  intro P0 E0 S0 M0 A0 B0 T0 C0 AA QQ XX hnm ret
  refine g_iconst XX d_CX_before_0 ?_
  refine g_istore_n (lv' := [(1, .int (iI 0)), (0, .ref x)]) XX d_CX_before_1 rfl (by decide) rfl ?_
  refine g_iconst XX d_CX_before_2 ?_
  refine g_istore_n (lv' := [(2, .int (iI 0)), (1, .int (iI 0)), (0, .ref x)]) XX d_CX_before_3 rfl (by decide) rfl ?_
  have L4 : ∀ (k_4 : Nat) (c0 : Int) (p0 : Int), (0 ≤ p0 ∧ p0 ≤ n + 1) → (c0 = cnt (bfb Pt m X n) p0) → (n + 1 - p0).toNat = k_4 → xG P0 l E0 rm_CX_before S0 M0 A0 B0 T0 C0 QQ 3 D vwCl AA 0 0 [cO x 4 [.ref hT, .ref hX, .ref hP, .ref hO, .ref hF, .ref hR], cO hX 0 [.ref aX, .int (iI n)], cR aX cA 96 fX, cO hP 0 [.ref aP, .int (iI m)], cR aP cA 96 fP] 4 [(2, .int (iI p0)), (1, .int (iI c0)), (0, .ref x)] [] := by
    refine x_ind (fun k_4 ih_4 c0 p0 h1 h2 hk_4 => ?_)
    refine g_iload_n XX d_CX_before_4 rfl 0 rfl ?_
    refine g_aload_n XX d_CX_before_5 rfl 2 rfl ?_
    refine g_get (C := R_CX) (T := T_CX) (N := 6) XX (tmw win0_CX) 0 rfl rfl 1 (by decide) (tm kw_10) rfl rfl d_CX_before_6 ?_
    refine g_get (C := R_BR) (T := T_BR) (N := 2) XX (tmw win0_BR) 1 rfl rfl 1 (by decide) (tm kw_33) rfl rfl d_CX_before_9 ?_
    refine g_icmp_gt (tgt := 32) XX d_CX_before_12 (by decide) ⟨by omega, by omega⟩ ⟨by omega, by omega⟩ (fun h12 => ?_) (fun h12 => ?_)
    · -- 12: yes
      refine g_iload_n XX d_CX_before_32 rfl 1 rfl ?_
      exact ret _ _ _ _ [cO x 4 [.ref hT, .ref hX, .ref hP, .ref hO, .ref hF, .ref hR], cO hX 0 [.ref aX, .int (iI n)], cR aX cA 96 fX, cO hP 0 [.ref aP, .int (iI m)], cR aP cA 96 fP] [0, 1, 2, 3, 4] d_CX_before_33 (by decide) rfl (⟨by rw [h2, show p0 = n + 1 by omega], rfl⟩)
    · -- 12: no
      refine g_aload_n XX d_CX_before_15 rfl 2 rfl ?_
      refine g_iload_n XX d_CX_before_16 rfl 0 rfl ?_
      refine g_calli (As := [.int (iI p0)]) (st := []) (wr := []) XX (c_CX_comes l D cA x hT hX hP hO hF hR aX aP fX X fP Pt n m p0 (by first | assumption | omega) (by first | assumption | omega) (by first | assumption | omega) (by first | assumption | omega) (by first | assumption | omega) (by first | assumption | omega) (by first | assumption | omega)) (x_cw 1 XX.2.2.2.2.1 (gi kw_73) rfl rfl (tm kw_49) (tm kw_74) (tm kw_75) (tm kw_76) ⟨by decide +kernel, by decide +kernel, by decide +kernel⟩ ⟨by decide, by decide⟩) [0, 1, 2, 3, 4] [] rfl rfl (by decide) (by decide) (by decide) 0 4 rfl rfl rfl rfl (Nat.le_of_ble_eq_true rfl) d_CX_before_17 ⟨by decide, by decide⟩ (fun r_ w_ hq => ?_)
      obtain ⟨rfl, rfl⟩ := hq
      show xG P0 l E0 rm_CX_before S0 M0 A0 B0 T0 C0 QQ 3 D vwCl AA 0 0 [cO x 4 [.ref hT, .ref hX, .ref hP, .ref hO, .ref hF, .ref hR], cO hX 0 [.ref aX, .int (iI n)], cR aX cA 96 fX, cO hP 0 [.ref aP, .int (iI m)], cR aP cA 96 fP] 20 [(2, .int (iI p0)), (1, .int (iI c0)), (0, .ref x)] [.int (iI (if bfb Pt m X n p0 then 1 else 0))]
      refine g_if_eq (tgt := 26) XX d_CX_before_20 (by decide) z01 (fun h20 => ?_) (fun h20 => ?_)
      · -- 20: yes
        refine g_iinc (lv' := [(2, .int (iI (p0 + 1))), (1, .int (iI c0)), (0, .ref x)]) XX d_CX_before_26 0 rfl (by decide) rfl ?_
        refine g_goto (tgt := 4) XX d_CX_before_29 (by decide) ?_
        exact ih_4 _ (by omega) c0 (p0 + 1) (by omega) (by first | (rw [h2, cnt_y (by omega) (z01_1 h20)]; done) | (rw [cnt_n (by omega) (z01_0 h20)]; exact h2)) rfl
      · -- 20: no
        refine g_iinc (lv' := [(1, .int (iI (c0 + 1))), (2, .int (iI p0)), (0, .ref x)]) XX d_CX_before_23 1 rfl (by decide) rfl ?_
        refine g_iinc (lv' := [(2, .int (iI (p0 + 1))), (1, .int (iI (c0 + 1))), (0, .ref x)]) XX d_CX_before_26 1 rfl (by decide) rfl ?_
        refine g_goto (tgt := 4) XX d_CX_before_29 (by decide) ?_
        exact ih_4 _ (by omega) (c0 + 1) (p0 + 1) (by omega) (by first | (rw [h2, cnt_y (by omega) (z01_1 h20)]; done) | (rw [cnt_n (by omega) (z01_0 h20)]; exact h2)) rfl
  exact L4 _ 0 0 (by omega) ((cnt_0 (by omega)).symm) rfl
abbrev rm_CX_hit : Room := { frames := 3, cells := 0, slots := 0, locals := 67 }
set_option maxHeartbeats 4000000 in
set_option maxRecDepth 100000 in
theorem c_CX_hit (l : Launch) (D : va_G) (cA : ClassId) (x hT hX hP hO hF hR : Nat) (aX aP : Nat) (fX X fP Pt : Int → Int) (n m i : Int) (hn : 0 ≤ n ∧ n ≤ 96) (hm : 0 ≤ m ∧ m ≤ 96) (hfX : ag fX X n) (hbX : bt8 X n) (hfP : ag fP Pt m) (hbP : bt8 Pt m) (hi : -2147483648 ≤ i ∧ i < 2147483648) : xM l y_CX_hit w_CX_hit rm_CX_hit D vwCl [(cA, .int)] [.ref x, .int (iI i)] [cO x 4 [.ref hT, .ref hX, .ref hP, .ref hO, .ref hF, .ref hR], cO hX 0 [.ref aX, .int (iI n)], cR aX cA 96 fX, cO hP 0 [.ref aP, .int (iI m)], cR aP cA 96 fP] (fun r w => r = iI (htr Pt m X n i) ∧ w = [cO x 4 [.ref hT, .ref hX, .ref hP, .ref hO, .ref hF, .ref hR], cO hX 0 [.ref aX, .int (iI n)], cR aX cA 96 fX, cO hP 0 [.ref aP, .int (iI m)], cR aP cA 96 fP]) 0 0 := by
  refine xM.ofI (by decide) rfl (Nat.le_of_ble_eq_true rfl) ?_
  intro P0 E0 S0 M0 A0 B0 T0 C0 AA QQ XX hnm ret
  refine g_iconst XX d_CX_hit_0 ?_
  refine g_istore_n (lv' := [(2, .int (iI 0)), (0, .ref x), (1, .int (iI i))]) XX d_CX_hit_1 rfl (by decide) rfl ?_
  refine g_iconst XX d_CX_hit_2 ?_
  refine g_istore_n (lv' := [(3, .int (iI 0)), (2, .int (iI 0)), (0, .ref x), (1, .int (iI i))]) XX d_CX_hit_3 rfl (by decide) rfl ?_
  have L4 : ∀ (k_4 : Nat) (c0 : Int) (p0 : Int), (0 ≤ p0 ∧ p0 ≤ n + 1) → (c0 = cnt (htb Pt m X n) p0) → (∀ j, 0 ≤ j → j < p0 → ¬ (htb Pt m X n j = true ∧ cnt (htb Pt m X n) j = i)) → (n + 1 - p0).toNat = k_4 → xG P0 l E0 rm_CX_hit S0 M0 A0 B0 T0 C0 QQ 4 D vwCl AA 0 0 [cO x 4 [.ref hT, .ref hX, .ref hP, .ref hO, .ref hF, .ref hR], cO hX 0 [.ref aX, .int (iI n)], cR aX cA 96 fX, cO hP 0 [.ref aP, .int (iI m)], cR aP cA 96 fP] 4 [(3, .int (iI p0)), (2, .int (iI c0)), (0, .ref x), (1, .int (iI i))] [] := by
    refine x_ind (fun k_4 ih_4 c0 p0 h1 h2 h3 hk_4 => ?_)
    refine g_iload_n XX d_CX_hit_4 rfl 0 rfl ?_
    refine g_aload_n XX d_CX_hit_5 rfl 2 rfl ?_
    refine g_get (C := R_CX) (T := T_CX) (N := 6) XX (tmw win0_CX) 0 rfl rfl 1 (by decide) (tm kw_10) rfl rfl d_CX_hit_6 ?_
    refine g_get (C := R_BR) (T := T_BR) (N := 2) XX (tmw win0_BR) 1 rfl rfl 1 (by decide) (tm kw_33) rfl rfl d_CX_hit_9 ?_
    refine g_icmp_gt (tgt := 39) XX d_CX_hit_12 (by decide) ⟨by omega, by omega⟩ ⟨by omega, by omega⟩ (fun h12 => ?_) (fun h12 => ?_)
    · -- 12: yes
      refine g_iconst XX d_CX_hit_39 ?_
      exact ret _ _ _ _ [cO x 4 [.ref hT, .ref hX, .ref hP, .ref hO, .ref hF, .ref hR], cO hX 0 [.ref aX, .int (iI n)], cR aX cA 96 fX, cO hP 0 [.ref aP, .int (iI m)], cR aP cA 96 fP] [0, 1, 2, 3, 4] d_CX_hit_40 (by decide) rfl (⟨by rw [htr_no (by omega) (fun j a b => h3 j a (by omega))], rfl⟩)
    · -- 12: no
      refine g_aload_n XX d_CX_hit_15 rfl 2 rfl ?_
      refine g_iload_n XX d_CX_hit_16 rfl 0 rfl ?_
      refine g_calli (As := [.int (iI p0)]) (st := []) (wr := []) XX (c_CX_stands l D cA x hT hX hP hO hF hR aX aP fX X fP Pt n m p0 (by first | assumption | omega) (by first | assumption | omega) (by first | assumption | omega) (by first | assumption | omega) (by first | assumption | omega) (by first | assumption | omega) (by first | assumption | omega)) (x_cw 1 XX.2.2.2.2.1 (gi kw_77) rfl rfl (tm kw_49) (tm kw_78) (tm kw_79) (tm kw_80) ⟨by decide +kernel, by decide +kernel, by decide +kernel⟩ ⟨by decide, by decide⟩) [0, 1, 2, 3, 4] [] rfl rfl (by decide) (by decide) (by decide) 0 4 rfl rfl rfl rfl (Nat.le_of_ble_eq_true rfl) d_CX_hit_17 ⟨by decide, by decide⟩ (fun r_ w_ hq => ?_)
      obtain ⟨rfl, rfl⟩ := hq
      show xG P0 l E0 rm_CX_hit S0 M0 A0 B0 T0 C0 QQ 4 D vwCl AA 0 0 [cO x 4 [.ref hT, .ref hX, .ref hP, .ref hO, .ref hF, .ref hR], cO hX 0 [.ref aX, .int (iI n)], cR aX cA 96 fX, cO hP 0 [.ref aP, .int (iI m)], cR aP cA 96 fP] 20 [(3, .int (iI p0)), (2, .int (iI c0)), (0, .ref x), (1, .int (iI i))] [.int (iI (if htb Pt m X n p0 then 1 else 0))]
      refine g_if_eq (tgt := 33) XX d_CX_hit_20 (by decide) z01 (fun h20 => ?_) (fun h20 => ?_)
      · -- 20: yes
        refine g_iinc (lv' := [(3, .int (iI (p0 + 1))), (2, .int (iI c0)), (0, .ref x), (1, .int (iI i))]) XX d_CX_hit_33 0 rfl (by decide) rfl ?_
        refine g_goto (tgt := 4) XX d_CX_hit_36 (by decide) ?_
        exact ih_4 _ (by omega) c0 (p0 + 1) (by omega) (by first | (rw [h2, cnt_y (by omega) (z01_1 h20)]; done) | (rw [cnt_n (by omega) (z01_0 h20)]; exact h2)) (by first | exact all_s h3 (fun z => h25 (by rw [h2]; exact z.2)) | exact all_s h3 (fun z => by rw [z01_0 h20] at z; exact absurd z.1 (by decide))) rfl
      · -- 20: no
        refine g_iload_n XX d_CX_hit_23 rfl 1 rfl ?_
        refine g_iload_n XX d_CX_hit_24 rfl 3 rfl ?_
        have q := cnt_rng (P := htb Pt m X n) (n := p0) (by omega)
        refine g_icmp_ne (tgt := 30) XX d_CX_hit_25 (by decide) ⟨by omega, by omega⟩ ⟨by omega, by omega⟩ (fun h25 => ?_) (fun h25 => ?_)
        · -- 25: yes
          refine g_iinc (lv' := [(2, .int (iI (c0 + 1))), (3, .int (iI p0)), (0, .ref x), (1, .int (iI i))]) XX d_CX_hit_30 1 rfl (by decide) rfl ?_
          refine g_iinc (lv' := [(3, .int (iI (p0 + 1))), (2, .int (iI (c0 + 1))), (0, .ref x), (1, .int (iI i))]) XX d_CX_hit_33 1 rfl (by decide) rfl ?_
          refine g_goto (tgt := 4) XX d_CX_hit_36 (by decide) ?_
          exact ih_4 _ (by omega) (c0 + 1) (p0 + 1) (by omega) (by first | (rw [h2, cnt_y (by omega) (z01_1 h20)]; done) | (rw [cnt_n (by omega) (z01_0 h20)]; exact h2)) (by first | exact all_s h3 (fun z => h25 (by rw [h2]; exact z.2)) | exact all_s h3 (fun z => by rw [z01_0 h20] at z; exact absurd z.1 (by decide))) rfl
        · -- 25: no
          refine g_iload_n XX d_CX_hit_28 rfl 0 rfl ?_
          exact ret _ _ _ _ [cO x 4 [.ref hT, .ref hX, .ref hP, .ref hO, .ref hF, .ref hR], cO hX 0 [.ref aX, .int (iI n)], cR aX cA 96 fX, cO hP 0 [.ref aP, .int (iI m)], cR aP cA 96 fP] [0, 1, 2, 3, 4] d_CX_hit_29 (by decide) rfl (⟨by rw [htr_at (by omega) (by omega) h3 (z01_1 h20) (by rw [← h2]; exact h25)], rfl⟩)
  exact L4 _ 0 0 (by omega) ((cnt_0 (by omega)).symm) (fun j a b => by omega) rfl
abbrev rm_CX_match : Room := { frames := 2, cells := 0, slots := 0, locals := 46 }
set_option maxHeartbeats 4000000 in
set_option maxRecDepth 100000 in
theorem c_CX_match (l : Launch) (D : va_G) (cA : ClassId) (x hT hX hP hO hF hR : Nat) (aX aP : Nat) (fX X fP Pt : Int → Int) (n m i : Int) (hn : 0 ≤ n ∧ n ≤ 96) (hm : 0 ≤ m ∧ m ≤ 96) (hfX : ag fX X n) (hbX : bt8 X n) (hfP : ag fP Pt m) (hbP : bt8 Pt m) (hi : -2147483648 ≤ i ∧ i < 2147483648) : xM l y_CX_match w_CX_match rm_CX_match D vwCl [(cA, .int)] [.ref x, .int (iI i)] [cO x 4 [.ref hT, .ref hX, .ref hP, .ref hO, .ref hF, .ref hR], cO hX 0 [.ref aX, .int (iI n)], cR aX cA 96 fX, cO hP 0 [.ref aP, .int (iI m)], cR aP cA 96 fP] (fun r w => r = iI (if 0 ≤ i ∧ i ≤ m then mx (fun q => al Pt m X n i q) (n + 1) else -1) ∧ w = [cO x 4 [.ref hT, .ref hX, .ref hP, .ref hO, .ref hF, .ref hR], cO hX 0 [.ref aX, .int (iI n)], cR aX cA 96 fX, cO hP 0 [.ref aP, .int (iI m)], cR aP cA 96 fP]) 0 0 := by
  refine xM.ofI (by decide) rfl (Nat.le_of_ble_eq_true rfl) ?_
  intro P0 E0 S0 M0 A0 B0 T0 C0 AA QQ XX hnm ret
  refine g_iload_n XX d_CX_match_0 rfl 1 rfl ?_
  refine g_if_lt (tgt := 15) XX d_CX_match_1 (by decide) ⟨by omega, by omega⟩ (fun h1 => ?_) (fun h1 => ?_)
  · -- 1: yes
    have hz : ¬ (0 ≤ i ∧ i ≤ m) := by omega
    refine g_iconst XX d_CX_match_15 ?_
    exact ret _ _ _ _ [cO x 4 [.ref hT, .ref hX, .ref hP, .ref hO, .ref hF, .ref hR], cO hX 0 [.ref aX, .int (iI n)], cR aX cA 96 fX, cO hP 0 [.ref aP, .int (iI m)], cR aP cA 96 fP] [0, 1, 2, 3, 4] d_CX_match_16 (by decide) rfl (⟨by rw [if_neg hz], rfl⟩)
  · -- 1: no
    refine g_iload_n XX d_CX_match_4 rfl 1 rfl ?_
    refine g_aload_n XX d_CX_match_5 rfl 0 rfl ?_
    refine g_get (C := R_CX) (T := T_CX) (N := 6) XX (tmw win0_CX) 0 rfl rfl 2 (by decide) (tm kw_11) rfl rfl d_CX_match_6 ?_
    refine g_get (C := R_BR) (T := T_BR) (N := 2) XX (tmw win0_BR) 3 rfl rfl 1 (by decide) (tm kw_33) rfl rfl d_CX_match_9 ?_
    refine g_icmp_le (tgt := 17) XX d_CX_match_12 (by decide) ⟨by omega, by omega⟩ ⟨by omega, by omega⟩ (fun h12 => ?_) (fun h12 => ?_)
    · -- 12: yes
      have hz : 0 ≤ i ∧ i ≤ m := by omega
      refine g_iconst XX d_CX_match_17 ?_
      refine g_istore_n (lv' := [(2, .int (iI 0)), (0, .ref x), (1, .int (iI i))]) XX d_CX_match_18 rfl (by decide) rfl ?_
      refine g_iconst XX d_CX_match_19 ?_
      refine g_istore_n (lv' := [(3, .int (iI 0)), (2, .int (iI 0)), (0, .ref x), (1, .int (iI i))]) XX d_CX_match_20 rfl (by decide) rfl ?_
      have L21 : ∀ (k_21 : Nat) (b0 : Int) (p0 : Int), (0 ≤ p0 ∧ p0 ≤ n + 1) → (b0 = mx (fun q => al Pt m X n i q) p0) → (n + 1 - p0).toNat = k_21 → xG P0 l E0 rm_CX_match S0 M0 A0 B0 T0 C0 QQ 4 D vwCl AA 0 0 [cO x 4 [.ref hT, .ref hX, .ref hP, .ref hO, .ref hF, .ref hR], cO hX 0 [.ref aX, .int (iI n)], cR aX cA 96 fX, cO hP 0 [.ref aP, .int (iI m)], cR aP cA 96 fP] 21 [(3, .int (iI p0)), (2, .int (iI b0)), (0, .ref x), (1, .int (iI i))] [] := by
        refine x_ind (fun k_21 ih_21 b0 p0 h1 h2 hk_21 => ?_)
        refine g_iload_n XX d_CX_match_21 rfl 0 rfl ?_
        refine g_aload_n XX d_CX_match_22 rfl 2 rfl ?_
        refine g_get (C := R_CX) (T := T_CX) (N := 6) XX (tmw win0_CX) 0 rfl rfl 1 (by decide) (tm kw_10) rfl rfl d_CX_match_23 ?_
        refine g_get (C := R_BR) (T := T_BR) (N := 2) XX (tmw win0_BR) 1 rfl rfl 1 (by decide) (tm kw_33) rfl rfl d_CX_match_26 ?_
        refine g_icmp_gt (tgt := 56) XX d_CX_match_29 (by decide) ⟨by omega, by omega⟩ ⟨by omega, by omega⟩ (fun h29 => ?_) (fun h29 => ?_)
        · -- 29: yes
          refine g_iload_n XX d_CX_match_56 rfl 1 rfl ?_
          exact ret _ _ _ _ [cO x 4 [.ref hT, .ref hX, .ref hP, .ref hO, .ref hF, .ref hR], cO hX 0 [.ref aX, .int (iI n)], cR aX cA 96 fX, cO hP 0 [.ref aP, .int (iI m)], cR aP cA 96 fP] [0, 1, 2, 3, 4] d_CX_match_57 (by decide) rfl (⟨by rw [if_pos hz, h2, show p0 = n + 1 by omega], rfl⟩)
        · -- 29: no
          refine g_iload_n XX d_CX_match_32 rfl 1 rfl ?_
          refine g_aload_n XX d_CX_match_33 rfl 2 rfl ?_
          refine g_get (C := R_CX) (T := T_CX) (N := 6) XX (tmw win0_CX) 0 rfl rfl 2 (by decide) (tm kw_11) rfl rfl d_CX_match_34 ?_
          refine g_iload_n XX d_CX_match_37 rfl 3 rfl ?_
          refine g_aload_n XX d_CX_match_38 rfl 2 rfl ?_
          refine g_get (C := R_CX) (T := T_CX) (N := 6) XX (tmw win0_CX) 0 rfl rfl 1 (by decide) (tm kw_10) rfl rfl d_CX_match_39 ?_
          refine g_iload_n XX d_CX_match_42 rfl 0 rfl ?_
          refine g_calli (As := [.int (iI i), .ref hX, .int (iI p0)]) (st := [.int (iI b0)]) (wr := [cO x 4 [.ref hT, .ref hX, .ref hP, .ref hO, .ref hF, .ref hR]]) XX (c_BR_alike l D cA hP aP hX aX fP fX Pt X m n i p0 (by first | assumption | omega) (by first | assumption | omega) (by first | assumption | omega) (by first | assumption | omega) (by first | assumption | omega) (by first | assumption | omega) (by first | assumption | omega)) (x_cw 3 XX.2.2.2.2.1 (gi kw_81) rfl rfl (tm kw_5) (tm kw_82) (tm kw_83) (tm kw_84) ⟨by decide +kernel, by decide +kernel, by decide +kernel⟩ ⟨by decide, by decide⟩) [3, 4, 1, 2] [0] rfl rfl (by decide) (by decide) (by decide) 3 0 rfl rfl rfl rfl (Nat.le_of_ble_eq_true rfl) d_CX_match_43 ⟨by decide, by decide⟩ (fun r_ w_ hq => ?_)
          obtain ⟨rfl, rfl⟩ := hq
          show xG P0 l E0 rm_CX_match S0 M0 A0 B0 T0 C0 QQ 4 D vwCl AA 0 0 [cO x 4 [.ref hT, .ref hX, .ref hP, .ref hO, .ref hF, .ref hR], cO hP 0 [.ref aP, .int (iI m)], cR aP cA 96 fP, cO hX 0 [.ref aX, .int (iI n)], cR aX cA 96 fX] 46 [(3, .int (iI p0)), (2, .int (iI b0)), (0, .ref x), (1, .int (iI i))] [.int (iI (al Pt m X n i p0)), .int (iI b0)]
          have q := mx_rng (F := fun q => al Pt m X n i q) (n := n + 1) (B := 96) (by omega) (fun j a b => by have := al_rng (f := Pt) (n := m) (g := X) (m := n) (p := i) (q := j) (by omega) (by omega); show al Pt m X n i j ≤ 96; omega) p0 (by omega) (by omega)
          have g := al_rng (f := Pt) (n := m) (g := X) (m := n) (p := i) (q := p0) (by omega) (by omega)
          refine g_mmax XX (tm kw_85) (tm kw_86) (tm kw_63) (tm kw_87) (by decide) (Nat.le_of_ble_eq_true rfl) (by decide) (by decide) ⟨by omega, by omega⟩ ⟨by omega, by omega⟩ d_CX_match_46 ?_
          refine g_istore_n (lv' := [(2, .int (iI (max b0 (al Pt m X n i p0)))), (3, .int (iI p0)), (0, .ref x), (1, .int (iI i))]) XX d_CX_match_49 rfl (by decide) rfl ?_
          refine g_iinc (lv' := [(3, .int (iI (p0 + 1))), (2, .int (iI (max b0 (al Pt m X n i p0)))), (0, .ref x), (1, .int (iI i))]) XX d_CX_match_50 1 rfl (by decide) rfl ?_
          refine g_goto (tgt := 21) XX d_CX_match_53 (by decide) ?_
          refine g_ws (ws' := [cO x 4 [.ref hT, .ref hX, .ref hP, .ref hO, .ref hF, .ref hR], cO hX 0 [.ref aX, .int (iI n)], cR aX cA 96 fX, cO hP 0 [.ref aP, .int (iI m)], cR aP cA 96 fP]) [0, 3, 4, 1, 2] (by decide) rfl ?_
          exact ih_21 _ (by omega) (max b0 (al Pt m X n i p0)) (p0 + 1) (by omega) (by rw [mx_s (by omega), ← h2]) rfl
      exact L21 _ 0 0 (by omega) (rfl) rfl
    · -- 12: no
      have hz : ¬ (0 ≤ i ∧ i ≤ m) := by omega
      refine g_iconst XX d_CX_match_15 ?_
      exact ret _ _ _ _ [cO x 4 [.ref hT, .ref hX, .ref hP, .ref hO, .ref hF, .ref hR], cO hX 0 [.ref aX, .int (iI n)], cR aX cA 96 fX, cO hP 0 [.ref aP, .int (iI m)], cR aP cA 96 fP] [0, 1, 2, 3, 4] d_CX_match_16 (by decide) rfl (⟨by rw [if_neg hz], rfl⟩)
abbrev rm_CX_seek : Room := { frames := 4, cells := 0, slots := 0, locals := 89 }
set_option maxHeartbeats 4000000 in
set_option maxRecDepth 100000 in
theorem c_CX_seek (l : Launch) (D : va_G) (cA : ClassId) (x hT hX hP hO hF hR : Nat) (aT aX aP : Nat) (fT T fX X fP : Int → Int) (t n m : Int) (ht : 0 ≤ t ∧ t ≤ 96) (hn : 0 ≤ n ∧ n ≤ 96) (hfT : ag fT T t) (hbT : bt8 T t) (hfX : ag fX X n) (hbX : bt8 X n) : xM l y_CX_seek w_CX_seek rm_CX_seek D vwCl [(cA, .int)] [.ref x] [cO x 4 [.ref hT, .ref hX, .ref hP, .ref hO, .ref hF, .ref hR], cO hT 0 [.ref aT, .int (iI t)], cR aT cA 96 fT, cO hP 0 [.ref aP, .int (iI m)], cR aP cA 96 fP, cO hX 0 [.ref aX, .int (iI n)], cR aX cA 96 fX] (fun r w => ∃ (fP' : Int → Int), r = iI (cnt (htb T t X n) (n + 1)) ∧ w = [cO x 4 [.ref hT, .ref hX, .ref hP, .ref hO, .ref hF, .ref hR], cO hT 0 [.ref aT, .int (iI 0)], cR aT cA 96 fT, cO hP 0 [.ref aP, .int (iI t)], cR aP cA 96 fP', cO hX 0 [.ref aX, .int (iI n)], cR aX cA 96 fX] ∧ (ag fP' T t)) 0 0 := by
  refine xM.ofI (by decide) rfl (Nat.le_of_ble_eq_true rfl) ?_
  intro P0 E0 S0 M0 A0 B0 T0 C0 AA QQ XX hnm ret
  refine g_aload_n XX d_CX_seek_0 rfl 0 rfl ?_
  refine g_get (C := R_CX) (T := T_CX) (N := 6) XX (tmw win0_CX) 0 rfl rfl 2 (by decide) (tm kw_11) rfl rfl d_CX_seek_1 ?_
  refine g_aload_n XX d_CX_seek_4 rfl 0 rfl ?_
  refine g_get (C := R_CX) (T := T_CX) (N := 6) XX (tmw win0_CX) 0 rfl rfl 0 (by decide) (tm kw_9) rfl rfl d_CX_seek_5 ?_
  refine g_callv (As := [.ref hT]) (st := []) (wr := [cO x 4 [.ref hT, .ref hX, .ref hP, .ref hO, .ref hF, .ref hR], cO hX 0 [.ref aX, .int (iI n)], cR aX cA 96 fX]) XX (c_BR_copy l D cA hP aP hT aT fP fT m t (by first | assumption | omega)) (x_cw 1 XX.2.2.2.2.1 (gi kw_38) rfl rfl (tm kw_5) (tm kw_39) (tm kw_40) (tm kw_41) ⟨by decide +kernel, by decide +kernel, by decide +kernel⟩ ⟨by decide, by decide⟩) [3, 4, 1, 2] [0, 5, 6] rfl rfl (by decide) (by decide) (by decide) 3 0 rfl rfl rfl rfl (Nat.le_of_ble_eq_true rfl) d_CX_seek_8 ⟨by decide, by decide⟩ (fun w_ hq => ?_)
  subst hq
  show xG P0 l E0 rm_CX_seek S0 M0 A0 B0 T0 C0 QQ 1 D vwCl AA 0 0 [cO x 4 [.ref hT, .ref hX, .ref hP, .ref hO, .ref hF, .ref hR], cO hX 0 [.ref aX, .int (iI n)], cR aX cA 96 fX, cO hP 0 [.ref aP, .int (iI t)], cR aP cA 96 (icpy fT fP 0 0 t), cO hT 0 [.ref aT, .int (iI t)], cR aT cA 96 fT] 11 [(0, .ref x)] []
  refine g_aload_n XX d_CX_seek_11 rfl 0 rfl ?_
  refine g_get (C := R_CX) (T := T_CX) (N := 6) XX (tmw win0_CX) 0 rfl rfl 0 (by decide) (tm kw_9) rfl rfl d_CX_seek_12 ?_
  refine g_callv (As := []) (st := []) (wr := [cO x 4 [.ref hT, .ref hX, .ref hP, .ref hO, .ref hF, .ref hR], cO hX 0 [.ref aX, .int (iI n)], cR aX cA 96 fX, cO hP 0 [.ref aP, .int (iI t)], cR aP cA 96 (icpy fT fP 0 0 t), cR aT cA 96 fT]) XX (c_BR_clear l D cA hT aT t ) (x_cw 0 XX.2.2.2.2.1 (gi kw_42) rfl rfl (tm kw_5) (tm kw_43) (tm kw_44) (tm kw_45) ⟨by decide +kernel, by decide +kernel, by decide +kernel⟩ ⟨by decide, by decide⟩) [5] [0, 1, 2, 3, 4, 6] rfl rfl (by decide) (by decide) (by decide) 5 0 rfl rfl rfl rfl (Nat.le_of_ble_eq_true rfl) d_CX_seek_15 ⟨by decide, by decide⟩ (fun w_ hq => ?_)
  subst hq
  show xG P0 l E0 rm_CX_seek S0 M0 A0 B0 T0 C0 QQ 1 D vwCl AA 0 0 [cO x 4 [.ref hT, .ref hX, .ref hP, .ref hO, .ref hF, .ref hR], cO hX 0 [.ref aX, .int (iI n)], cR aX cA 96 fX, cO hP 0 [.ref aP, .int (iI t)], cR aP cA 96 (icpy fT fP 0 0 t), cR aT cA 96 fT, cO hT 0 [.ref aT, .int (iI 0)]] 18 [(0, .ref x)] []
  refine g_aload_n XX d_CX_seek_18 rfl 0 rfl ?_
  refine g_calli (As := []) (st := []) (wr := [cR aT cA 96 fT, cO hT 0 [.ref aT, .int (iI 0)]]) XX (c_CX_count l D cA x hT hX hP hO hF hR aX aP fX X (icpy fT fP 0 0 t) T n t (by first | assumption | omega) (by first | assumption | omega) (by first | assumption | omega) (by first | assumption | omega) (ag_cpy hfT) (hbT)) (x_cw 0 XX.2.2.2.2.1 (gi kw_65) rfl rfl (tm kw_49) (tm kw_66) (tm kw_67) (tm kw_68) ⟨by decide +kernel, by decide +kernel, by decide +kernel⟩ ⟨by decide, by decide⟩) [0, 1, 2, 3, 4] [5, 6] rfl rfl (by decide) (by decide) (by decide) 0 4 rfl rfl rfl rfl (Nat.le_of_ble_eq_true rfl) d_CX_seek_19 ⟨by decide, by decide⟩ (fun r_ w_ hq => ?_)
  obtain ⟨rfl, rfl⟩ := hq
  show xG P0 l E0 rm_CX_seek S0 M0 A0 B0 T0 C0 QQ 1 D vwCl AA 0 0 [cR aT cA 96 fT, cO hT 0 [.ref aT, .int (iI 0)], cO x 4 [.ref hT, .ref hX, .ref hP, .ref hO, .ref hF, .ref hR], cO hX 0 [.ref aX, .int (iI n)], cR aX cA 96 fX, cO hP 0 [.ref aP, .int (iI t)], cR aP cA 96 (icpy fT fP 0 0 t)] 22 [(0, .ref x)] [.int (iI (cnt (htb T t X n) (n + 1)))]
  exact ret _ _ _ _ [cO x 4 [.ref hT, .ref hX, .ref hP, .ref hO, .ref hF, .ref hR], cO hT 0 [.ref aT, .int (iI 0)], cR aT cA 96 fT, cO hP 0 [.ref aP, .int (iI t)], cR aP cA 96 (icpy fT fP 0 0 t), cO hX 0 [.ref aX, .int (iI n)], cR aX cA 96 fX] [2, 1, 0, 5, 6, 3, 4] d_CX_seek_22 (by decide) rfl (⟨icpy fT fP 0 0 t, rfl, rfl, ag_cpy hfT⟩)
abbrev rm_CX_extend : Room := { frames := 4, cells := 0, slots := 0, locals := 89 }
set_option maxHeartbeats 4000000 in
set_option maxRecDepth 100000 in
theorem c_CX_extend (l : Launch) (D : va_G) (cA : ClassId) (x hT hX hP hO hF hR : Nat) (aX aP : Nat) (fX X fP Pt : Int → Int) (n m i : Int) (hn : 0 ≤ n ∧ n ≤ 96) (hm : 0 ≤ m ∧ m ≤ 96) (hfX : ag fX X n) (hbX : bt8 X n) (hfP : ag fP Pt m) (hbP : bt8 Pt m) (hi : -2147483648 ≤ i ∧ i < 2147483648) : xM l y_CX_extend w_CX_extend rm_CX_extend D vwCl [(cA, .int)] [.ref x, .int (iI i)] [cO x 4 [.ref hT, .ref hX, .ref hP, .ref hO, .ref hF, .ref hR], cO hX 0 [.ref aX, .int (iI n)], cR aX cA 96 fX, cO hP 0 [.ref aP, .int (iI m)], cR aP cA 96 fP] (fun r w => ∃ (fP' : Int → Int), r = iI (if exR m i = 0 then cnt (htb (exG Pt m i) (exN m i) X n) (n + 1) else exR m i) ∧ w = [cO x 4 [.ref hT, .ref hX, .ref hP, .ref hO, .ref hF, .ref hR], cO hX 0 [.ref aX, .int (iI n)], cR aX cA 96 fX, cO hP 0 [.ref aP, .int (iI (exN m i))], cR aP cA 96 fP'] ∧ (ag fP' (exG Pt m i) (exN m i))) 0 0 := by
  refine xM.ofI (by decide) rfl (Nat.le_of_ble_eq_true rfl) ?_
  intro P0 E0 S0 M0 A0 B0 T0 C0 AA QQ XX hnm ret
  refine g_iload_n XX d_CX_extend_0 rfl 1 rfl ?_
  refine g_if_lt (tgt := 11) XX d_CX_extend_1 (by decide) ⟨by omega, by omega⟩ (fun h1 => ?_) (fun h1 => ?_)
  · -- 1: yes
    have hz : exR m i = -1 := exR_bad (by omega)
    refine g_iconst XX d_CX_extend_11 ?_
    exact ret _ _ _ _ [cO x 4 [.ref hT, .ref hX, .ref hP, .ref hO, .ref hF, .ref hR], cO hX 0 [.ref aX, .int (iI n)], cR aX cA 96 fX, cO hP 0 [.ref aP, .int (iI m)], cR aP cA 96 fP] [0, 1, 2, 3, 4] d_CX_extend_12 (by decide) rfl (⟨fP, by rw [if_neg (by omega), hz], by rw [exN_bad (by omega)], by rw [exN_bad (by omega), exG_bad (by omega)]; exact hfP⟩)
  · -- 1: no
    refine g_iload_n XX d_CX_extend_4 rfl 1 rfl ?_
    refine g_sipush (v := 256) XX d_CX_extend_5 (by decide) ?_
    refine g_icmp_lt (tgt := 13) XX d_CX_extend_8 (by decide) ⟨by omega, by omega⟩ ⟨by omega, by omega⟩ (fun h8 => ?_) (fun h8 => ?_)
    · -- 8: yes
      refine g_aload_n XX d_CX_extend_13 rfl 0 rfl ?_
      refine g_get (C := R_CX) (T := T_CX) (N := 6) XX (tmw win0_CX) 0 rfl rfl 2 (by decide) (tm kw_11) rfl rfl d_CX_extend_14 ?_
      refine g_get (C := R_BR) (T := T_BR) (N := 2) XX (tmw win0_BR) 3 rfl rfl 1 (by decide) (tm kw_33) rfl rfl d_CX_extend_17 ?_
      refine g_bipush (v := 96) XX d_CX_extend_20 (by decide) ?_
      refine g_icmp_lt (tgt := 28) XX d_CX_extend_22 (by decide) ⟨by omega, by omega⟩ ⟨by omega, by omega⟩ (fun h22 => ?_) (fun h22 => ?_)
      · -- 22: yes
        have hz : exR m i = 0 := exR_ok (by omega) (by omega)
        refine g_aload_n XX d_CX_extend_28 rfl 0 rfl ?_
        refine g_get (C := R_CX) (T := T_CX) (N := 6) XX (tmw win0_CX) 0 rfl rfl 2 (by decide) (tm kw_11) rfl rfl d_CX_extend_29 ?_
        refine g_iload_n XX d_CX_extend_32 rfl 1 rfl ?_
        refine g_callv (As := [.int (iI i)]) (st := []) (wr := [cO x 4 [.ref hT, .ref hX, .ref hP, .ref hO, .ref hF, .ref hR], cO hX 0 [.ref aX, .int (iI n)], cR aX cA 96 fX]) XX (c_BR_front l D cA hP aP fP m i (by first | assumption | omega)) (x_cw 1 XX.2.2.2.2.1 (gi kw_69) rfl rfl (tm kw_5) (tm kw_70) (tm kw_71) (tm kw_72) ⟨by decide +kernel, by decide +kernel, by decide +kernel⟩ ⟨by decide, by decide⟩) [3, 4] [0, 1, 2] rfl rfl (by decide) (by decide) (by decide) 3 0 rfl rfl rfl rfl (Nat.le_of_ble_eq_true rfl) d_CX_extend_33 ⟨by decide, by decide⟩ (fun w_ hq => ?_)
        subst hq
        show xG P0 l E0 rm_CX_extend S0 M0 A0 B0 T0 C0 QQ 2 D vwCl AA 0 0 [cO x 4 [.ref hT, .ref hX, .ref hP, .ref hO, .ref hF, .ref hR], cO hX 0 [.ref aX, .int (iI n)], cR aX cA 96 fX, cO hP 0 [.ref aP, .int (iI (m + 1))], cR aP cA 96 (iup (icpy fP fP 0 1 m) 0 i)] 36 [(0, .ref x), (1, .int (iI i))] []
        refine g_aload_n XX d_CX_extend_36 rfl 0 rfl ?_
        refine g_calli (As := []) (st := []) (wr := []) XX (c_CX_count l D cA x hT hX hP hO hF hR aX aP fX X (iup (icpy fP fP 0 1 m) 0 i) (exG Pt m i) n (m + 1) (by first | assumption | omega) (by first | assumption | omega) (by first | assumption | omega) (by first | assumption | omega) (ex_ag hz hfP) (by have := exG_bt (b := i) hbP; rwa [exN_ok hz] at this)) (x_cw 0 XX.2.2.2.2.1 (gi kw_65) rfl rfl (tm kw_49) (tm kw_66) (tm kw_67) (tm kw_68) ⟨by decide +kernel, by decide +kernel, by decide +kernel⟩ ⟨by decide, by decide⟩) [0, 1, 2, 3, 4] [] rfl rfl (by decide) (by decide) (by decide) 0 4 rfl rfl rfl rfl (Nat.le_of_ble_eq_true rfl) d_CX_extend_37 ⟨by decide, by decide⟩ (fun r_ w_ hq => ?_)
        obtain ⟨rfl, rfl⟩ := hq
        show xG P0 l E0 rm_CX_extend S0 M0 A0 B0 T0 C0 QQ 2 D vwCl AA 0 0 [cO x 4 [.ref hT, .ref hX, .ref hP, .ref hO, .ref hF, .ref hR], cO hX 0 [.ref aX, .int (iI n)], cR aX cA 96 fX, cO hP 0 [.ref aP, .int (iI (m + 1))], cR aP cA 96 (iup (icpy fP fP 0 1 m) 0 i)] 40 [(0, .ref x), (1, .int (iI i))] [.int (iI (cnt (htb (exG Pt m i) (m + 1) X n) (n + 1)))]
        exact ret _ _ _ _ [cO x 4 [.ref hT, .ref hX, .ref hP, .ref hO, .ref hF, .ref hR], cO hX 0 [.ref aX, .int (iI n)], cR aX cA 96 fX, cO hP 0 [.ref aP, .int (iI (m + 1))], cR aP cA 96 (iup (icpy fP fP 0 1 m) 0 i)] [0, 1, 2, 3, 4] d_CX_extend_40 (by decide) rfl (⟨iup (icpy fP fP 0 1 m) 0 i, by rw [if_pos hz, exN_ok hz], by rw [exN_ok hz], by rw [exN_ok hz]; exact ex_ag hz hfP⟩)
      · -- 22: no
        have hz : exR m i = -3 := exR_full (by omega) (by omega)
        refine g_bipush (v := -3) XX d_CX_extend_25 (by decide) ?_
        exact ret _ _ _ _ [cO x 4 [.ref hT, .ref hX, .ref hP, .ref hO, .ref hF, .ref hR], cO hX 0 [.ref aX, .int (iI n)], cR aX cA 96 fX, cO hP 0 [.ref aP, .int (iI m)], cR aP cA 96 fP] [0, 1, 2, 3, 4] d_CX_extend_27 (by decide) rfl (⟨fP, by rw [if_neg (by omega), hz], by rw [exN_bad (by omega)], by rw [exN_bad (by omega), exG_bad (by omega)]; exact hfP⟩)
    · -- 8: no
      have hz : exR m i = -1 := exR_bad (by omega)
      refine g_iconst XX d_CX_extend_11 ?_
      exact ret _ _ _ _ [cO x 4 [.ref hT, .ref hX, .ref hP, .ref hO, .ref hF, .ref hR], cO hX 0 [.ref aX, .int (iI n)], cR aX cA 96 fX, cO hP 0 [.ref aP, .int (iI m)], cR aP cA 96 fP] [0, 1, 2, 3, 4] d_CX_extend_12 (by decide) rfl (⟨fP, by rw [if_neg (by omega), hz], by rw [exN_bad (by omega)], by rw [exN_bad (by omega), exG_bad (by omega)]; exact hfP⟩)
abbrev rm_CX_arrange : Room := { frames := 3, cells := 0, slots := 0, locals := 71 }
set_option maxHeartbeats 4000000 in
set_option maxRecDepth 100000 in
theorem c_CX_arrange (l : Launch) (D : va_G) (cA : ClassId) (x hT hX hP hO hF hR : Nat) (aX o1 o2 o3 o4 n1 l1 : Nat) (fX X sa ro co cl nu li : Int → Int) (n : Int) (hn : 0 ≤ n ∧ n ≤ 96) (hfX : ag fX X n) (hbX : bt8 X n) : xV l y_CX_arrangeText w_CX_arrangeText rm_CX_arrange D vwCl [(cA, .int)] [.ref x] [cO x 4 [.ref hT, .ref hX, .ref hP, .ref hO, .ref hF, .ref hR], cO hX 0 [.ref aX, .int (iI n)], cR aX cA 96 fX, cO hO 3 [.ref o1, .ref o2, .ref o3, .ref o4], cR o1 cA 97 sa, cR o2 cA 97 ro, cR o3 cA 96 co, cR o4 cA 97 cl, cO hF 2 [.ref n1, .ref l1], cR n1 cA 97 nu, cR l1 cA 257 li] (fun w => ∃ (sa' : Int → Int), ∃ (ro' : Int → Int), ∃ (co' : Int → Int), ∃ (cl' : Int → Int), ∃ (nu' : Int → Int), ∃ (li' : Int → Int), w = [cO x 4 [.ref hT, .ref hX, .ref hP, .ref hO, .ref hF, .ref hR], cO hX 0 [.ref aX, .int (iI n)], cR aX cA 96 fX, cO hO 3 [.ref o1, .ref o2, .ref o3, .ref o4], cR o1 cA 97 sa', cR o2 cA 97 ro', cR o3 cA 96 co', cR o4 cA 97 cl', cO hF 2 [.ref n1, .ref l1], cR n1 cA 97 nu', cR l1 cA 257 li'] ∧ (cxi X n fX sa' ro' co' cl' nu')) 0 0 := by
  refine xV.of (by decide) rfl (Nat.le_of_ble_eq_true rfl) ?_
  intro P0 E0 S0 M0 A0 B0 T0 C0 AA QQ XX hnm ret
  refine g_aload_n XX d_CX_arrangeText_0 rfl 0 rfl ?_
  refine g_get (C := R_CX) (T := T_CX) (N := 6) XX (tmw win0_CX) 0 rfl rfl 3 (by decide) (tm kw_18) rfl rfl d_CX_arrangeText_1 ?_
  refine g_aload_n XX d_CX_arrangeText_4 rfl 0 rfl ?_
  refine g_get (C := R_CX) (T := T_CX) (N := 6) XX (tmw win0_CX) 0 rfl rfl 1 (by decide) (tm kw_10) rfl rfl d_CX_arrangeText_5 ?_
  refine g_callv (As := [.ref hX]) (st := []) (wr := [cO x 4 [.ref hT, .ref hX, .ref hP, .ref hO, .ref hF, .ref hR], cO hF 2 [.ref n1, .ref l1], cR n1 cA 97 nu, cR l1 cA 257 li]) XX (c_SO_arrange l D cA hO o1 o2 o3 o4 hX aX sa ro co cl fX X n (by first | assumption | omega) (by first | assumption | omega) (by first | assumption | omega)) (x_cw 1 XX.2.2.2.2.1 (gi kw_100) rfl rfl (tm kw_14) (tm kw_101) (tm kw_102) (tm kw_103) ⟨by decide +kernel, by decide +kernel, by decide +kernel⟩ ⟨by decide, by decide⟩) [3, 4, 5, 6, 7, 1, 2] [0, 8, 9, 10] rfl rfl (by decide) (by decide) (by decide) 3 3 rfl rfl rfl rfl (Nat.le_of_ble_eq_true rfl) d_CX_arrangeText_8 ⟨by decide, by decide⟩ (fun w_ hq => ?_)
  obtain ⟨sa1, ro1, co1, cl1, rfl, u8_0, u8_1, u8_2, u8_3⟩ := hq
  show xG P0 l E0 rm_CX_arrange S0 M0 A0 B0 T0 C0 QQ 1 D vwCl AA 0 0 [cO x 4 [.ref hT, .ref hX, .ref hP, .ref hO, .ref hF, .ref hR], cO hF 2 [.ref n1, .ref l1], cR n1 cA 97 nu, cR l1 cA 257 li, cO hO 3 [.ref o1, .ref o2, .ref o3, .ref o4], cR o1 cA 97 sa1, cR o2 cA 97 ro1, cR o3 cA 96 co1, cR o4 cA 97 cl1, cO hX 0 [.ref aX, .int (iI n)], cR aX cA 96 fX] 11 [(0, .ref x)] []
  refine g_aload_n XX d_CX_arrangeText_11 rfl 0 rfl ?_
  refine g_get (C := R_CX) (T := T_CX) (N := 6) XX (tmw win0_CX) 0 rfl rfl 4 (by decide) (tm kw_25) rfl rfl d_CX_arrangeText_12 ?_
  refine g_aload_n XX d_CX_arrangeText_15 rfl 0 rfl ?_
  refine g_get (C := R_CX) (T := T_CX) (N := 6) XX (tmw win0_CX) 0 rfl rfl 3 (by decide) (tm kw_18) rfl rfl d_CX_arrangeText_16 ?_
  refine g_get (C := R_SO) (T := T_SO) (N := 4) XX (tmw win0_SO) 4 rfl rfl 3 (by decide) (tm kw_58) rfl rfl d_CX_arrangeText_19 ?_
  refine g_aload_n XX d_CX_arrangeText_22 rfl 0 rfl ?_
  refine g_get (C := R_CX) (T := T_CX) (N := 6) XX (tmw win0_CX) 0 rfl rfl 1 (by decide) (tm kw_10) rfl rfl d_CX_arrangeText_23 ?_
  refine g_get (C := R_BR) (T := T_BR) (N := 2) XX (tmw win0_BR) 9 rfl rfl 1 (by decide) (tm kw_33) rfl rfl d_CX_arrangeText_26 ?_
  refine g_callv (As := [.ref o4, .int (iI n)]) (st := []) (wr := [cO x 4 [.ref hT, .ref hX, .ref hP, .ref hO, .ref hF, .ref hR], cO hO 3 [.ref o1, .ref o2, .ref o3, .ref o4], cR o1 cA 97 sa1, cR o2 cA 97 ro1, cR o3 cA 96 co1, cO hX 0 [.ref aX, .int (iI n)], cR aX cA 96 fX]) XX (c_FL_number l D cA hF n1 l1 o4 nu li cl1 (cX X n) n (by first | assumption | omega) (by first | assumption | omega) (fun j a b => cX_sy hbX a (by omega))) (x_cw 2 XX.2.2.2.2.1 (gi kw_104) rfl rfl (tm kw_21) (tm kw_105) (tm kw_106) (tm kw_107) ⟨by decide +kernel, by decide +kernel, by decide +kernel⟩ ⟨by decide, by decide⟩) [1, 2, 3, 8] [0, 4, 5, 6, 7, 9, 10] rfl rfl (by decide) (by decide) (by decide) 1 2 rfl rfl rfl rfl (Nat.le_of_ble_eq_true rfl) d_CX_arrangeText_29 ⟨by decide, by decide⟩ (fun w_ hq => ?_)
  obtain ⟨nu1, li1, rfl, u29_0⟩ := hq
  show xG P0 l E0 rm_CX_arrange S0 M0 A0 B0 T0 C0 QQ 1 D vwCl AA 0 0 [cO x 4 [.ref hT, .ref hX, .ref hP, .ref hO, .ref hF, .ref hR], cO hO 3 [.ref o1, .ref o2, .ref o3, .ref o4], cR o1 cA 97 sa1, cR o2 cA 97 ro1, cR o3 cA 96 co1, cO hX 0 [.ref aX, .int (iI n)], cR aX cA 96 fX, cO hF 2 [.ref n1, .ref l1], cR n1 cA 97 nu1, cR l1 cA 257 li1, cR o4 cA 97 cl1] 32 [(0, .ref x)] []
  exact ret _ _ _ [cO x 4 [.ref hT, .ref hX, .ref hP, .ref hO, .ref hF, .ref hR], cO hX 0 [.ref aX, .int (iI n)], cR aX cA 96 fX, cO hO 3 [.ref o1, .ref o2, .ref o3, .ref o4], cR o1 cA 97 sa1, cR o2 cA 97 ro1, cR o3 cA 96 co1, cR o4 cA 97 cl1, cO hF 2 [.ref n1, .ref l1], cR n1 cA 97 nu1, cR l1 cA 257 li1] [0, 5, 6, 1, 2, 3, 4, 10, 7, 8, 9] d_CX_arrangeText_32 (by decide) rfl (⟨sa1, ro1, co1, cl1, nu1, li1, rfl, ⟨hfX, hbX, hn, u8_0, u8_1, u8_2, u8_3, u29_0⟩⟩)
abbrev rm_CX_build : Room := { frames := 4, cells := 0, slots := 0, locals := 91 }
set_option maxHeartbeats 4000000 in
set_option maxRecDepth 100000 in
theorem c_CX_build (l : Launch) (D : va_G) (cA : ClassId) (x hT hX hP hO hF hR : Nat) (aT aX o1 o2 o3 o4 n1 l1 : Nat) (fT T fX sa ro co cl nu li : Int → Int) (t n : Int) (ht : 0 ≤ t ∧ t ≤ 96) (hfT : ag fT T t) (hbT : bt8 T t) : xM l y_CX_build w_CX_build rm_CX_build D vwCl [(cA, .int)] [.ref x] [cO x 4 [.ref hT, .ref hX, .ref hP, .ref hO, .ref hF, .ref hR], cO hT 0 [.ref aT, .int (iI t)], cR aT cA 96 fT, cO hX 0 [.ref aX, .int (iI n)], cR aX cA 96 fX, cO hO 3 [.ref o1, .ref o2, .ref o3, .ref o4], cR o1 cA 97 sa, cR o2 cA 97 ro, cR o3 cA 96 co, cR o4 cA 97 cl, cO hF 2 [.ref n1, .ref l1], cR n1 cA 97 nu, cR l1 cA 257 li] (fun r w => ∃ (fX' : Int → Int), ∃ (sa' : Int → Int), ∃ (ro' : Int → Int), ∃ (co' : Int → Int), ∃ (cl' : Int → Int), ∃ (nu' : Int → Int), ∃ (li' : Int → Int), r = iI t ∧ w = [cO x 4 [.ref hT, .ref hX, .ref hP, .ref hO, .ref hF, .ref hR], cO hT 0 [.ref aT, .int (iI 0)], cR aT cA 96 fT, cO hX 0 [.ref aX, .int (iI t)], cR aX cA 96 fX', cO hO 3 [.ref o1, .ref o2, .ref o3, .ref o4], cR o1 cA 97 sa', cR o2 cA 97 ro', cR o3 cA 96 co', cR o4 cA 97 cl', cO hF 2 [.ref n1, .ref l1], cR n1 cA 97 nu', cR l1 cA 257 li'] ∧ (cxi T t fX' sa' ro' co' cl' nu')) 0 0 := by
  refine xM.ofI (by decide) rfl (Nat.le_of_ble_eq_true rfl) ?_
  intro P0 E0 S0 M0 A0 B0 T0 C0 AA QQ XX hnm ret
  refine g_aload_n XX d_CX_build_0 rfl 0 rfl ?_
  refine g_get (C := R_CX) (T := T_CX) (N := 6) XX (tmw win0_CX) 0 rfl rfl 1 (by decide) (tm kw_10) rfl rfl d_CX_build_1 ?_
  refine g_aload_n XX d_CX_build_4 rfl 0 rfl ?_
  refine g_get (C := R_CX) (T := T_CX) (N := 6) XX (tmw win0_CX) 0 rfl rfl 0 (by decide) (tm kw_9) rfl rfl d_CX_build_5 ?_
  refine g_callv (As := [.ref hT]) (st := []) (wr := [cO x 4 [.ref hT, .ref hX, .ref hP, .ref hO, .ref hF, .ref hR], cO hO 3 [.ref o1, .ref o2, .ref o3, .ref o4], cR o1 cA 97 sa, cR o2 cA 97 ro, cR o3 cA 96 co, cR o4 cA 97 cl, cO hF 2 [.ref n1, .ref l1], cR n1 cA 97 nu, cR l1 cA 257 li]) XX (c_BR_copy l D cA hX aX hT aT fX fT n t (by first | assumption | omega)) (x_cw 1 XX.2.2.2.2.1 (gi kw_38) rfl rfl (tm kw_5) (tm kw_39) (tm kw_40) (tm kw_41) ⟨by decide +kernel, by decide +kernel, by decide +kernel⟩ ⟨by decide, by decide⟩) [3, 4, 1, 2] [0, 5, 6, 7, 8, 9, 10, 11, 12] rfl rfl (by decide) (by decide) (by decide) 3 0 rfl rfl rfl rfl (Nat.le_of_ble_eq_true rfl) d_CX_build_8 ⟨by decide, by decide⟩ (fun w_ hq => ?_)
  subst hq
  show xG P0 l E0 rm_CX_build S0 M0 A0 B0 T0 C0 QQ 1 D vwCl AA 0 0 [cO x 4 [.ref hT, .ref hX, .ref hP, .ref hO, .ref hF, .ref hR], cO hO 3 [.ref o1, .ref o2, .ref o3, .ref o4], cR o1 cA 97 sa, cR o2 cA 97 ro, cR o3 cA 96 co, cR o4 cA 97 cl, cO hF 2 [.ref n1, .ref l1], cR n1 cA 97 nu, cR l1 cA 257 li, cO hX 0 [.ref aX, .int (iI t)], cR aX cA 96 (icpy fT fX 0 0 t), cO hT 0 [.ref aT, .int (iI t)], cR aT cA 96 fT] 11 [(0, .ref x)] []
  refine g_aload_n XX d_CX_build_11 rfl 0 rfl ?_
  refine g_get (C := R_CX) (T := T_CX) (N := 6) XX (tmw win0_CX) 0 rfl rfl 0 (by decide) (tm kw_9) rfl rfl d_CX_build_12 ?_
  refine g_callv (As := []) (st := []) (wr := [cO x 4 [.ref hT, .ref hX, .ref hP, .ref hO, .ref hF, .ref hR], cO hO 3 [.ref o1, .ref o2, .ref o3, .ref o4], cR o1 cA 97 sa, cR o2 cA 97 ro, cR o3 cA 96 co, cR o4 cA 97 cl, cO hF 2 [.ref n1, .ref l1], cR n1 cA 97 nu, cR l1 cA 257 li, cO hX 0 [.ref aX, .int (iI t)], cR aX cA 96 (icpy fT fX 0 0 t), cR aT cA 96 fT]) XX (c_BR_clear l D cA hT aT t ) (x_cw 0 XX.2.2.2.2.1 (gi kw_42) rfl rfl (tm kw_5) (tm kw_43) (tm kw_44) (tm kw_45) ⟨by decide +kernel, by decide +kernel, by decide +kernel⟩ ⟨by decide, by decide⟩) [11] [0, 1, 2, 3, 4, 5, 6, 7, 8, 9, 10, 12] rfl rfl (by decide) (by decide) (by decide) 11 0 rfl rfl rfl rfl (Nat.le_of_ble_eq_true rfl) d_CX_build_15 ⟨by decide, by decide⟩ (fun w_ hq => ?_)
  subst hq
  show xG P0 l E0 rm_CX_build S0 M0 A0 B0 T0 C0 QQ 1 D vwCl AA 0 0 [cO x 4 [.ref hT, .ref hX, .ref hP, .ref hO, .ref hF, .ref hR], cO hO 3 [.ref o1, .ref o2, .ref o3, .ref o4], cR o1 cA 97 sa, cR o2 cA 97 ro, cR o3 cA 96 co, cR o4 cA 97 cl, cO hF 2 [.ref n1, .ref l1], cR n1 cA 97 nu, cR l1 cA 257 li, cO hX 0 [.ref aX, .int (iI t)], cR aX cA 96 (icpy fT fX 0 0 t), cR aT cA 96 fT, cO hT 0 [.ref aT, .int (iI 0)]] 18 [(0, .ref x)] []
  refine g_aload_n XX d_CX_build_18 rfl 0 rfl ?_
  refine g_callv (As := []) (st := []) (wr := [cR aT cA 96 fT, cO hT 0 [.ref aT, .int (iI 0)]]) XX (c_CX_arrange l D cA x hT hX hP hO hF hR aX o1 o2 o3 o4 n1 l1 (icpy fT fX 0 0 t) T sa ro co cl nu li t (by first | assumption | omega) (ag_cpy hfT) (hbT)) (x_cw 0 XX.2.2.2.2.1 (gi kw_46) rfl rfl (tm kw_49) (tm kw_47) (tm kw_48) (tm kw_50) ⟨by decide +kernel, by decide +kernel, by decide +kernel⟩ ⟨by decide, by decide⟩) [0, 9, 10, 1, 2, 3, 4, 5, 6, 7, 8] [11, 12] rfl rfl (by decide) (by decide) (by decide) 0 4 rfl rfl rfl rfl (Nat.le_of_ble_eq_true rfl) d_CX_build_19 ⟨by decide, by decide⟩ (fun w_ hq => ?_)
  obtain ⟨sa1, ro1, co1, cl1, nu1, li1, rfl, u19_0⟩ := hq
  show xG P0 l E0 rm_CX_build S0 M0 A0 B0 T0 C0 QQ 1 D vwCl AA 0 0 [cR aT cA 96 fT, cO hT 0 [.ref aT, .int (iI 0)], cO x 4 [.ref hT, .ref hX, .ref hP, .ref hO, .ref hF, .ref hR], cO hX 0 [.ref aX, .int (iI t)], cR aX cA 96 (icpy fT fX 0 0 t), cO hO 3 [.ref o1, .ref o2, .ref o3, .ref o4], cR o1 cA 97 sa1, cR o2 cA 97 ro1, cR o3 cA 96 co1, cR o4 cA 97 cl1, cO hF 2 [.ref n1, .ref l1], cR n1 cA 97 nu1, cR l1 cA 257 li1] 22 [(0, .ref x)] []
  refine g_aload_n XX d_CX_build_22 rfl 0 rfl ?_
  refine g_get (C := R_CX) (T := T_CX) (N := 6) XX (tmw win0_CX) 2 rfl rfl 1 (by decide) (tm kw_10) rfl rfl d_CX_build_23 ?_
  refine g_get (C := R_BR) (T := T_BR) (N := 2) XX (tmw win0_BR) 3 rfl rfl 1 (by decide) (tm kw_33) rfl rfl d_CX_build_26 ?_
  exact ret _ _ _ _ [cO x 4 [.ref hT, .ref hX, .ref hP, .ref hO, .ref hF, .ref hR], cO hT 0 [.ref aT, .int (iI 0)], cR aT cA 96 fT, cO hX 0 [.ref aX, .int (iI t)], cR aX cA 96 (icpy fT fX 0 0 t), cO hO 3 [.ref o1, .ref o2, .ref o3, .ref o4], cR o1 cA 97 sa1, cR o2 cA 97 ro1, cR o3 cA 96 co1, cR o4 cA 97 cl1, cO hF 2 [.ref n1, .ref l1], cR n1 cA 97 nu1, cR l1 cA 257 li1] [2, 1, 0, 3, 4, 5, 6, 7, 8, 9, 10, 11, 12] d_CX_build_29 (by decide) rfl (⟨icpy fT fX 0 0 t, sa1, ro1, co1, cl1, nu1, li1, rfl, rfl, u19_0⟩)
abbrev rm_CX_type : Room := { frames := 1, cells := 0, slots := 0, locals := 21 }
set_option maxHeartbeats 4000000 in
set_option maxRecDepth 100000 in
theorem c_CX_type (l : Launch) (D : va_G) (cA : ClassId) (x hT hX hP hO hF hR : Nat) (aT : Nat) (fT T : Int → Int) (bits : Int64) (t i : Int) (ht : 0 ≤ t ∧ t ≤ 96) (hfT : ag fT T t) (hi : -2147483648 ≤ i ∧ i < 2147483648) : xM l y_CX_type w_CX_type rm_CX_type D vwCl [(cA, .int)] [.ref x, .long bits, .int (iI i)] [cO x 4 [.ref hT, .ref hX, .ref hP, .ref hO, .ref hF, .ref hR], cO hT 0 [.ref aT, .int (iI t)], cR aT cA 96 fT] (fun r w => ∃ (fT' : Int → Int), r = iI (tyR t i) ∧ w = [cO x 4 [.ref hT, .ref hX, .ref hP, .ref hO, .ref hF, .ref hR], cO hT 0 [.ref aT, .int (iI (tyN t i))], cR aT cA 96 fT'] ∧ (ag fT' (tyG T t bits i) (tyN t i))) 0 0 := by
  refine xM.ofI (by decide) rfl (Nat.le_of_ble_eq_true rfl) ?_
  intro P0 E0 S0 M0 A0 B0 T0 C0 AA QQ XX hnm ret
  refine g_iload_n XX d_CX_type_0 rfl 2 rfl ?_
  refine g_iconst XX d_CX_type_1 ?_
  refine g_icmp_lt (tgt := 11) XX d_CX_type_2 (by decide) ⟨by omega, by omega⟩ ⟨by omega, by omega⟩ (fun h2 => ?_) (fun h2 => ?_)
  · -- 2: yes
    have hz := ty_bad (t := t) (i := i) (by omega)
    refine g_iconst XX d_CX_type_11 ?_
    exact ret _ _ _ _ [cO x 4 [.ref hT, .ref hX, .ref hP, .ref hO, .ref hF, .ref hR], cO hT 0 [.ref aT, .int (iI t)], cR aT cA 96 fT] [0, 1, 2] d_CX_type_12 (by decide) rfl (⟨fT, by rw [hz.1], by rw [hz.2], by rw [hz.2]; exact tyG_ag hfT⟩)
  · -- 2: no
    refine g_iload_n XX d_CX_type_5 rfl 2 rfl ?_
    refine g_bipush (v := 8) XX d_CX_type_6 (by decide) ?_
    refine g_icmp_le (tgt := 13) XX d_CX_type_8 (by decide) ⟨by omega, by omega⟩ ⟨by omega, by omega⟩ (fun h8 => ?_) (fun h8 => ?_)
    · -- 8: yes
      refine g_iload_n XX d_CX_type_13 rfl 2 rfl ?_
      refine g_bipush (v := 96) XX d_CX_type_14 (by decide) ?_
      refine g_aload_n XX d_CX_type_16 rfl 0 rfl ?_
      refine g_get (C := R_CX) (T := T_CX) (N := 6) XX (tmw win0_CX) 0 rfl rfl 0 (by decide) (tm kw_9) rfl rfl d_CX_type_17 ?_
      refine g_get (C := R_BR) (T := T_BR) (N := 2) XX (tmw win0_BR) 1 rfl rfl 1 (by decide) (tm kw_33) rfl rfl d_CX_type_20 ?_
      refine g_isub XX d_CX_type_23 ?_
      refine g_icmp_le (tgt := 30) XX d_CX_type_24 (by decide) ⟨by omega, by omega⟩ ⟨by omega, by omega⟩ (fun h24 => ?_) (fun h24 => ?_)
      · -- 24: yes
        have hz := ty_ok (t := t) (i := i) (by omega) (by omega)
        refine g_iload_n XX d_CX_type_30 rfl 2 rfl ?_
        refine g_iconst XX d_CX_type_31 ?_
        refine g_isub XX d_CX_type_32 ?_
        refine g_istore (lv' := [(4, .int (iI (i - 1))), (0, .ref x), (1, .long bits), (3, .int (iI i))]) XX d_CX_type_33 (by decide) rfl ?_
        have L35 : ∀ (k_35 : Nat) (k0 : Int) (L0 : Int) (fT2 : Int → Int), (-1 ≤ k0 ∧ k0 ≤ i - 1) → (L0 = t + (i - 1 - k0)) → (ag fT2 (tyG T t bits i) L0) → (k0 + 1).toNat = k_35 → xG P0 l E0 rm_CX_type S0 M0 A0 B0 T0 C0 QQ 5 D vwCl AA 0 0 [cO x 4 [.ref hT, .ref hX, .ref hP, .ref hO, .ref hF, .ref hR], cO hT 0 [.ref aT, .int (iI L0)], cR aT cA 96 fT2] 35 [(4, .int (iI k0)), (0, .ref x), (1, .long bits), (3, .int (iI i))] [] := by
          refine x_ind (fun k_35 ih_35 k0 L0 fT2 h1 h2 h3 hk_35 => ?_)
          refine g_iload XX d_CX_type_35 0 rfl ?_
          refine g_if_lt (tgt := 65) XX d_CX_type_37 (by decide) ⟨by omega, by omega⟩ (fun h37 => ?_) (fun h37 => ?_)
          · -- 37: yes
            refine g_aload_n XX d_CX_type_65 rfl 1 rfl ?_
            refine g_get (C := R_CX) (T := T_CX) (N := 6) XX (tmw win0_CX) 0 rfl rfl 0 (by decide) (tm kw_9) rfl rfl d_CX_type_66 ?_
            refine g_get (C := R_BR) (T := T_BR) (N := 2) XX (tmw win0_BR) 1 rfl rfl 1 (by decide) (tm kw_33) rfl rfl d_CX_type_69 ?_
            exact ret _ _ _ _ [cO x 4 [.ref hT, .ref hX, .ref hP, .ref hO, .ref hF, .ref hR], cO hT 0 [.ref aT, .int (iI L0)], cR aT cA 96 fT2] [0, 1, 2] d_CX_type_72 (by decide) rfl (⟨fT2, by rw [hz.1, show L0 = t + i by omega], by rw [hz.2, show L0 = t + i by omega], by rw [hz.2, show t + i = L0 by omega]; exact h3⟩)
          · -- 37: no
            refine g_aload_n XX d_CX_type_40 rfl 1 rfl ?_
            refine g_get (C := R_CX) (T := T_CX) (N := 6) XX (tmw win0_CX) 0 rfl rfl 0 (by decide) (tm kw_9) rfl rfl d_CX_type_41 ?_
            refine g_lload_n XX d_CX_type_44 rfl 2 rfl ?_
            refine g_bipush (v := 8) XX d_CX_type_45 (by decide) ?_
            refine g_iload XX d_CX_type_47 0 rfl ?_
            refine g_imul XX d_CX_type_49 ?_
            refine g_lushr XX d_CX_type_50 rfl ?_
            refine g_l2i XX d_CX_type_51 rfl ?_
            refine g_sipush (v := 255) XX d_CX_type_52 (by decide) ?_
            refine g_iand XX d_CX_type_55 (tb_cls bits k0) ?_
            refine g_callv (As := [.int (iI (tb bits k0))]) (st := []) (wr := [cO x 4 [.ref hT, .ref hX, .ref hP, .ref hO, .ref hF, .ref hR]]) XX (c_BR_append l D cA hT aT fT2 L0 (tb bits k0) (by first | assumption | omega)) (x_cw 1 XX.2.2.2.2.1 (gi kw_34) rfl rfl (tm kw_5) (tm kw_35) (tm kw_36) (tm kw_37) ⟨by decide +kernel, by decide +kernel, by decide +kernel⟩ ⟨by decide, by decide⟩) [1, 2] [0] rfl rfl (by decide) (by decide) (by decide) 1 0 rfl rfl rfl rfl (Nat.le_of_ble_eq_true rfl) d_CX_type_56 ⟨by decide, by decide⟩ (fun w_ hq => ?_)
            subst hq
            show xG P0 l E0 rm_CX_type S0 M0 A0 B0 T0 C0 QQ 5 D vwCl AA 0 0 [cO x 4 [.ref hT, .ref hX, .ref hP, .ref hO, .ref hF, .ref hR], cO hT 0 [.ref aT, .int (iI (L0 + 1))], cR aT cA 96 (iup fT2 L0 (tb bits k0))] 59 [(4, .int (iI k0)), (0, .ref x), (1, .long bits), (3, .int (iI i))] []
            refine g_iinc (lv' := [(4, .int (iI (k0 + (-1)))), (0, .ref x), (1, .long bits), (3, .int (iI i))]) XX d_CX_type_59 0 rfl (by decide) rfl ?_
            refine g_goto (tgt := 35) XX d_CX_type_62 (by decide) ?_
            exact ih_35 _ (by omega) (k0 + (-1)) (L0 + 1) (iup fT2 L0 (tb bits k0)) (by omega) (by omega) (ag_s h3 (by simp only [tyG, if_neg (show ¬ L0 < t by omega)]; rw [show i - 1 - (L0 - t) = k0 by omega])) rfl
        exact L35 _ (i - 1) t fT (by omega) (by omega) (tyG_ag hfT) rfl
      · -- 24: no
        have hz := ty_full (t := t) (i := i) (by omega) (by omega)
        refine g_bipush (v := -3) XX d_CX_type_27 (by decide) ?_
        exact ret _ _ _ _ [cO x 4 [.ref hT, .ref hX, .ref hP, .ref hO, .ref hF, .ref hR], cO hT 0 [.ref aT, .int (iI t)], cR aT cA 96 fT] [0, 1, 2] d_CX_type_29 (by decide) rfl (⟨fT, by rw [hz.1], by rw [hz.2], by rw [hz.2]; exact tyG_ag hfT⟩)
    · -- 8: no
      have hz := ty_bad (t := t) (i := i) (by omega)
      refine g_iconst XX d_CX_type_11 ?_
      exact ret _ _ _ _ [cO x 4 [.ref hT, .ref hX, .ref hP, .ref hO, .ref hF, .ref hR], cO hT 0 [.ref aT, .int (iI t)], cR aT cA 96 fT] [0, 1, 2] d_CX_type_12 (by decide) rfl (⟨fT, by rw [hz.1], by rw [hz.2], by rw [hz.2]; exact tyG_ag hfT⟩)
abbrev rm_CX_revert : Room := { frames := 5, cells := 0, slots := 0, locals := 111 }
set_option maxHeartbeats 4000000 in
set_option maxRecDepth 100000 in
theorem c_CX_revert (l : Launch) (D : va_G) (cA : ClassId) (x hT hX hP hO hF hR : Nat) (aT aX o1 o2 o3 o4 n1 l1 r1 : Nat) (fT T fX X sa ro co cl nu li rc : Int → Int) (t n lr i : Int) (ht : 0 ≤ t ∧ t ≤ 96) (hfT : ag fT T t) (hbT : bt8 T t) (hi : -2147483648 ≤ i ∧ i < 2147483648) (hx : cxi X n fX sa ro co cl nu) : xM l y_CX_revert w_CX_revert rm_CX_revert D vwCl [(cA, .int)] [.ref x, .int (iI i)] [cO x 4 [.ref hT, .ref hX, .ref hP, .ref hO, .ref hF, .ref hR], cO hT 0 [.ref aT, .int (iI t)], cR aT cA 96 fT, cO hX 0 [.ref aX, .int (iI n)], cR aX cA 96 fX, cO hO 3 [.ref o1, .ref o2, .ref o3, .ref o4], cR o1 cA 97 sa, cR o2 cA 97 ro, cR o3 cA 96 co, cR o4 cA 97 cl, cO hF 2 [.ref n1, .ref l1], cR n1 cA 97 nu, cR l1 cA 257 li, cO hR 1 [.ref r1, .int (iI lr)], cR r1 cA 97 rc] (fun r w => ∃ (z : Int), ∃ (t' : Int), ∃ (fT' : Int → Int), ∃ (X' : Int → Int), ∃ (n' : Int), ∃ (fX' : Int → Int), ∃ (sa' : Int → Int), ∃ (ro' : Int → Int), ∃ (co' : Int → Int), ∃ (cl' : Int → Int), ∃ (nu' : Int → Int), ∃ (li' : Int → Int), ∃ (lr' : Int), ∃ (rc' : Int → Int), r = iI z ∧ w = [cO x 4 [.ref hT, .ref hX, .ref hP, .ref hO, .ref hF, .ref hR], cO hT 0 [.ref aT, .int (iI t')], cR aT cA 96 fT', cO hX 0 [.ref aX, .int (iI n')], cR aX cA 96 fX', cO hO 3 [.ref o1, .ref o2, .ref o3, .ref o4], cR o1 cA 97 sa', cR o2 cA 97 ro', cR o3 cA 96 co', cR o4 cA 97 cl', cO hF 2 [.ref n1, .ref l1], cR n1 cA 97 nu', cR l1 cA 257 li', cO hR 1 [.ref r1, .int (iI lr')], cR r1 cA 97 rc'] ∧ (cxi X' n' fX' sa' ro' co' cl' nu') ∧ (rvP T t X n i z t' X' n') ∧ (ag fT' T t')) 0 0 := by
  refine xM.ofI (by decide) rfl (Nat.le_of_ble_eq_true rfl) ?_
  intro P0 E0 S0 M0 A0 B0 T0 C0 AA QQ XX hnm ret
  refine g_iload_n XX d_CX_revert_0 rfl 1 rfl ?_
  refine g_if_lt (tgt := 15) XX d_CX_revert_1 (by decide) ⟨by omega, by omega⟩ (fun h1 => ?_) (fun h1 => ?_)
  · -- 1: yes
    refine g_iconst XX d_CX_revert_15 ?_
    exact ret _ _ _ _ [cO x 4 [.ref hT, .ref hX, .ref hP, .ref hO, .ref hF, .ref hR], cO hT 0 [.ref aT, .int (iI t)], cR aT cA 96 fT, cO hX 0 [.ref aX, .int (iI n)], cR aX cA 96 fX, cO hO 3 [.ref o1, .ref o2, .ref o3, .ref o4], cR o1 cA 97 sa, cR o2 cA 97 ro, cR o3 cA 96 co, cR o4 cA 97 cl, cO hF 2 [.ref n1, .ref l1], cR n1 cA 97 nu, cR l1 cA 257 li, cO hR 1 [.ref r1, .int (iI lr)], cR r1 cA 97 rc] [0, 1, 2, 3, 4, 5, 6, 7, 8, 9, 10, 11, 12, 13, 14] d_CX_revert_16 (by decide) rfl (⟨(-1), t, fT, X, n, fX, sa, ro, co, cl, nu, li, lr, rc, rfl, rfl, hx, Or.inl ⟨by omega, rfl, rfl, rfl, rfl⟩, hfT⟩)
  · -- 1: no
    refine g_iload_n XX d_CX_revert_4 rfl 1 rfl ?_
    refine g_aload_n XX d_CX_revert_5 rfl 0 rfl ?_
    refine g_get (C := R_CX) (T := T_CX) (N := 6) XX (tmw win0_CX) 0 rfl rfl 0 (by decide) (tm kw_9) rfl rfl d_CX_revert_6 ?_
    refine g_get (C := R_BR) (T := T_BR) (N := 2) XX (tmw win0_BR) 1 rfl rfl 1 (by decide) (tm kw_33) rfl rfl d_CX_revert_9 ?_
    refine g_icmp_le (tgt := 17) XX d_CX_revert_12 (by decide) ⟨by omega, by omega⟩ ⟨by omega, by omega⟩ (fun h12 => ?_) (fun h12 => ?_)
    · -- 12: yes
      refine g_aload_n XX d_CX_revert_17 rfl 0 rfl ?_
      refine g_get (C := R_CX) (T := T_CX) (N := 6) XX (tmw win0_CX) 0 rfl rfl 5 (by decide) (tm kw_32) rfl rfl d_CX_revert_18 ?_
      refine g_aload_n XX d_CX_revert_21 rfl 0 rfl ?_
      refine g_get (C := R_CX) (T := T_CX) (N := 6) XX (tmw win0_CX) 0 rfl rfl 0 (by decide) (tm kw_9) rfl rfl d_CX_revert_22 ?_
      refine g_iload_n XX d_CX_revert_25 rfl 1 rfl ?_
      refine g_callv (As := [.ref hT, .int (iI i)]) (st := []) (wr := [cO x 4 [.ref hT, .ref hX, .ref hP, .ref hO, .ref hF, .ref hR], cO hX 0 [.ref aX, .int (iI n)], cR aX cA 96 fX, cO hO 3 [.ref o1, .ref o2, .ref o3, .ref o4], cR o1 cA 97 sa, cR o2 cA 97 ro, cR o3 cA 96 co, cR o4 cA 97 cl, cO hF 2 [.ref n1, .ref l1], cR n1 cA 97 nu, cR l1 cA 257 li]) XX (c_CR_take l D cA hR r1 hT aT rc fT T lr t i (by first | assumption | omega) (by first | assumption | omega)) (x_cw 2 XX.2.2.2.2.1 (gi kw_88) rfl rfl (tm kw_28) (tm kw_89) (tm kw_90) (tm kw_91) ⟨by decide +kernel, by decide +kernel, by decide +kernel⟩ ⟨by decide, by decide⟩) [13, 14, 1, 2] [0, 3, 4, 5, 6, 7, 8, 9, 10, 11, 12] rfl rfl (by decide) (by decide) (by decide) 13 1 rfl rfl rfl rfl (Nat.le_of_ble_eq_true rfl) d_CX_revert_26 ⟨by decide, by decide⟩ (fun w_ hq => ?_)
      obtain ⟨rc1, rfl, u26_0⟩ := hq
      show xG P0 l E0 rm_CX_revert S0 M0 A0 B0 T0 C0 QQ 2 D vwCl AA 0 0 [cO x 4 [.ref hT, .ref hX, .ref hP, .ref hO, .ref hF, .ref hR], cO hX 0 [.ref aX, .int (iI n)], cR aX cA 96 fX, cO hO 3 [.ref o1, .ref o2, .ref o3, .ref o4], cR o1 cA 97 sa, cR o2 cA 97 ro, cR o3 cA 96 co, cR o4 cA 97 cl, cO hF 2 [.ref n1, .ref l1], cR n1 cA 97 nu, cR l1 cA 257 li, cO hR 1 [.ref r1, .int (iI t)], cR r1 cA 97 rc1, cO hT 0 [.ref aT, .int (iI t)], cR aT cA 96 fT] 29 [(0, .ref x), (1, .int (iI i))] []
      refine g_aload_n XX d_CX_revert_29 rfl 0 rfl ?_
      refine g_get (C := R_CX) (T := T_CX) (N := 6) XX (tmw win0_CX) 0 rfl rfl 5 (by decide) (tm kw_32) rfl rfl d_CX_revert_30 ?_
      refine g_aload_n XX d_CX_revert_33 rfl 0 rfl ?_
      refine g_get (C := R_CX) (T := T_CX) (N := 6) XX (tmw win0_CX) 0 rfl rfl 0 (by decide) (tm kw_9) rfl rfl d_CX_revert_34 ?_
      refine g_calli (As := [.ref hT]) (st := []) (wr := [cO x 4 [.ref hT, .ref hX, .ref hP, .ref hO, .ref hF, .ref hR], cO hX 0 [.ref aX, .int (iI n)], cR aX cA 96 fX, cO hO 3 [.ref o1, .ref o2, .ref o3, .ref o4], cR o1 cA 97 sa, cR o2 cA 97 ro, cR o3 cA 96 co, cR o4 cA 97 cl, cO hF 2 [.ref n1, .ref l1], cR n1 cA 97 nu, cR l1 cA 257 li]) XX (c_CR_write l D cA hR r1 hT aT rc1 fT (gv T i) t t (by first | assumption | omega) (by first | assumption | omega) (cok_rng (gv_cok hbT (by omega) (by omega)))) (x_cw 1 XX.2.2.2.2.1 (gi kw_92) rfl rfl (tm kw_28) (tm kw_93) (tm kw_94) (tm kw_95) ⟨by decide +kernel, by decide +kernel, by decide +kernel⟩ ⟨by decide, by decide⟩) [11, 12, 13, 14] [0, 1, 2, 3, 4, 5, 6, 7, 8, 9, 10] rfl rfl (by decide) (by decide) (by decide) 11 1 rfl rfl rfl rfl (Nat.le_of_ble_eq_true rfl) d_CX_revert_37 ⟨by decide, by decide⟩ (fun r_ w_ hq => ?_)
      obtain ⟨z1, t1, fT1, rfl, rfl, u37_0⟩ := hq
      show xG P0 l E0 rm_CX_revert S0 M0 A0 B0 T0 C0 QQ 2 D vwCl AA 0 0 [cO x 4 [.ref hT, .ref hX, .ref hP, .ref hO, .ref hF, .ref hR], cO hX 0 [.ref aX, .int (iI n)], cR aX cA 96 fX, cO hO 3 [.ref o1, .ref o2, .ref o3, .ref o4], cR o1 cA 97 sa, cR o2 cA 97 ro, cR o3 cA 96 co, cR o4 cA 97 cl, cO hF 2 [.ref n1, .ref l1], cR n1 cA 97 nu, cR l1 cA 257 li, cO hR 1 [.ref r1, .int (iI t)], cR r1 cA 97 rc1, cO hT 0 [.ref aT, .int (iI t1)], cR aT cA 96 fT1] 40 [(0, .ref x), (1, .int (iI i))] [.int (iI z1)]
      have hzz : z1 = 0 ∨ z1 = 1 := u37_0.elim (fun g => Or.inr g.1) (fun g => Or.inl g.1)
      refine g_if_ne (tgt := 53) XX d_CX_revert_40 (by decide) ⟨by omega, by omega⟩ (fun h40 => ?_) (fun h40 => ?_)
      · -- 40: yes
        obtain ⟨gz, gw, gx, gt⟩ := u37_0.resolve_right (fun g => h40 g.1)
        refine g_aload_n XX d_CX_revert_53 rfl 0 rfl ?_
        refine g_calli (As := []) (st := []) (wr := [cO hR 1 [.ref r1, .int (iI t)], cR r1 cA 97 rc1]) XX (c_CX_build l D cA x hT hX hP hO hF hR aT aX o1 o2 o3 o4 n1 l1 fT1 (xt (gv T i) t) fX sa ro co cl nu li t1 n (by first | assumption | omega) (by rw [gt]; exact gx) (by rw [gt]; exact (wk_col (by omega) (gv_cok hbT (by omega) (by omega)) gw).2.2)) (x_cw 0 XX.2.2.2.2.1 (gi kw_96) rfl rfl (tm kw_49) (tm kw_97) (tm kw_98) (tm kw_99) ⟨by decide +kernel, by decide +kernel, by decide +kernel⟩ ⟨by decide, by decide⟩) [0, 13, 14, 1, 2, 3, 4, 5, 6, 7, 8, 9, 10] [11, 12] rfl rfl (by decide) (by decide) (by decide) 0 4 rfl rfl rfl rfl (Nat.le_of_ble_eq_true rfl) d_CX_revert_54 ⟨by decide, by decide⟩ (fun r_ w_ hq => ?_)
        obtain ⟨fX1, sa1, ro1, co1, cl1, nu1, li1, rfl, rfl, u54_0⟩ := hq
        show xG P0 l E0 rm_CX_revert S0 M0 A0 B0 T0 C0 QQ 2 D vwCl AA 0 0 [cO hR 1 [.ref r1, .int (iI t)], cR r1 cA 97 rc1, cO x 4 [.ref hT, .ref hX, .ref hP, .ref hO, .ref hF, .ref hR], cO hT 0 [.ref aT, .int (iI 0)], cR aT cA 96 fT1, cO hX 0 [.ref aX, .int (iI t1)], cR aX cA 96 fX1, cO hO 3 [.ref o1, .ref o2, .ref o3, .ref o4], cR o1 cA 97 sa1, cR o2 cA 97 ro1, cR o3 cA 96 co1, cR o4 cA 97 cl1, cO hF 2 [.ref n1, .ref l1], cR n1 cA 97 nu1, cR l1 cA 257 li1] 57 [(0, .ref x), (1, .int (iI i))] [.int (iI t1)]
        exact ret _ _ _ _ [cO x 4 [.ref hT, .ref hX, .ref hP, .ref hO, .ref hF, .ref hR], cO hT 0 [.ref aT, .int (iI 0)], cR aT cA 96 fT1, cO hX 0 [.ref aX, .int (iI t1)], cR aX cA 96 fX1, cO hO 3 [.ref o1, .ref o2, .ref o3, .ref o4], cR o1 cA 97 sa1, cR o2 cA 97 ro1, cR o3 cA 96 co1, cR o4 cA 97 cl1, cO hF 2 [.ref n1, .ref l1], cR n1 cA 97 nu1, cR l1 cA 257 li1, cO hR 1 [.ref r1, .int (iI t)], cR r1 cA 97 rc1] [2, 3, 4, 5, 6, 7, 8, 9, 10, 11, 12, 13, 14, 0, 1] d_CX_revert_57 (by decide) rfl (⟨t1, 0, fT1, xt (gv T i) t, t1, fX1, sa1, ro1, co1, cl1, nu1, li1, t, rc1, rfl, rfl, u54_0, Or.inr (Or.inl ⟨by omega, gw, gt, rfl, rfl, gt⟩), ag_0 (by omega)⟩)
      · -- 40: no
        have ng : ¬ wgood (gv T i) t := u37_0.elim (fun g => absurd (g.1.symm.trans h40) (by decide)) (fun g => g.2)
        refine g_aload_n XX d_CX_revert_43 rfl 0 rfl ?_
        refine g_get (C := R_CX) (T := T_CX) (N := 6) XX (tmw win0_CX) 0 rfl rfl 0 (by decide) (tm kw_9) rfl rfl d_CX_revert_44 ?_
        refine g_callv (As := []) (st := []) (wr := [cO x 4 [.ref hT, .ref hX, .ref hP, .ref hO, .ref hF, .ref hR], cO hX 0 [.ref aX, .int (iI n)], cR aX cA 96 fX, cO hO 3 [.ref o1, .ref o2, .ref o3, .ref o4], cR o1 cA 97 sa, cR o2 cA 97 ro, cR o3 cA 96 co, cR o4 cA 97 cl, cO hF 2 [.ref n1, .ref l1], cR n1 cA 97 nu, cR l1 cA 257 li, cO hR 1 [.ref r1, .int (iI t)], cR r1 cA 97 rc1, cR aT cA 96 fT1]) XX (c_BR_clear l D cA hT aT t1 ) (x_cw 0 XX.2.2.2.2.1 (gi kw_42) rfl rfl (tm kw_5) (tm kw_43) (tm kw_44) (tm kw_45) ⟨by decide +kernel, by decide +kernel, by decide +kernel⟩ ⟨by decide, by decide⟩) [13] [0, 1, 2, 3, 4, 5, 6, 7, 8, 9, 10, 11, 12, 14] rfl rfl (by decide) (by decide) (by decide) 13 0 rfl rfl rfl rfl (Nat.le_of_ble_eq_true rfl) d_CX_revert_47 ⟨by decide, by decide⟩ (fun w_ hq => ?_)
        subst hq
        show xG P0 l E0 rm_CX_revert S0 M0 A0 B0 T0 C0 QQ 2 D vwCl AA 0 0 [cO x 4 [.ref hT, .ref hX, .ref hP, .ref hO, .ref hF, .ref hR], cO hX 0 [.ref aX, .int (iI n)], cR aX cA 96 fX, cO hO 3 [.ref o1, .ref o2, .ref o3, .ref o4], cR o1 cA 97 sa, cR o2 cA 97 ro, cR o3 cA 96 co, cR o4 cA 97 cl, cO hF 2 [.ref n1, .ref l1], cR n1 cA 97 nu, cR l1 cA 257 li, cO hR 1 [.ref r1, .int (iI t)], cR r1 cA 97 rc1, cR aT cA 96 fT1, cO hT 0 [.ref aT, .int (iI 0)]] 50 [(0, .ref x), (1, .int (iI i))] []
        refine g_bipush (v := -4) XX d_CX_revert_50 (by decide) ?_
        exact ret _ _ _ _ [cO x 4 [.ref hT, .ref hX, .ref hP, .ref hO, .ref hF, .ref hR], cO hT 0 [.ref aT, .int (iI 0)], cR aT cA 96 fT1, cO hX 0 [.ref aX, .int (iI n)], cR aX cA 96 fX, cO hO 3 [.ref o1, .ref o2, .ref o3, .ref o4], cR o1 cA 97 sa, cR o2 cA 97 ro, cR o3 cA 96 co, cR o4 cA 97 cl, cO hF 2 [.ref n1, .ref l1], cR n1 cA 97 nu, cR l1 cA 257 li, cO hR 1 [.ref r1, .int (iI t)], cR r1 cA 97 rc1] [0, 14, 13, 1, 2, 3, 4, 5, 6, 7, 8, 9, 10, 11, 12] d_CX_revert_52 (by decide) rfl (⟨(-4), 0, fT1, X, n, fX, sa, ro, co, cl, nu, li, t, rc1, rfl, rfl, hx, Or.inr (Or.inr ⟨by omega, ng, rfl, rfl, rfl, rfl⟩), ag_0 (by omega)⟩)
    · -- 12: no
      refine g_iconst XX d_CX_revert_15 ?_
      exact ret _ _ _ _ [cO x 4 [.ref hT, .ref hX, .ref hP, .ref hO, .ref hF, .ref hR], cO hT 0 [.ref aT, .int (iI t)], cR aT cA 96 fT, cO hX 0 [.ref aX, .int (iI n)], cR aX cA 96 fX, cO hO 3 [.ref o1, .ref o2, .ref o3, .ref o4], cR o1 cA 97 sa, cR o2 cA 97 ro, cR o3 cA 96 co, cR o4 cA 97 cl, cO hF 2 [.ref n1, .ref l1], cR n1 cA 97 nu, cR l1 cA 257 li, cO hR 1 [.ref r1, .int (iI lr)], cR r1 cA 97 rc] [0, 1, 2, 3, 4, 5, 6, 7, 8, 9, 10, 11, 12, 13, 14] d_CX_revert_16 (by decide) rfl (⟨(-1), t, fT, X, n, fX, sa, ro, co, cl, nu, li, lr, rc, rfl, rfl, hx, Or.inl ⟨by omega, rfl, rfl, rfl, rfl⟩, hfT⟩)
