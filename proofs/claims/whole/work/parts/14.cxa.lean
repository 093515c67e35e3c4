abbrev rm_CX_isSuffix : Room := { frames := 0, cells := 0, slots := 0, locals := 0 }
set_option maxHeartbeats 4000000 in
set_option maxRecDepth 100000 in
theorem c_CX_isSuffix (l : Launch) (D : va_G) (cA : ClassId) (x hT hX hP hO hF hR : Nat) (aX : Nat) (n i : Int) (hn : 0 ≤ n ∧ n ≤ 96) (hi : -2147483648 ≤ i ∧ i < 2147483648) : xM l y_CX_isSuffix w_CX_isSuffix rm_CX_isSuffix D vwCl [(cA, .int)] [.ref x, .int (iI i)] [cO x 4 [.ref hT, .ref hX, .ref hP, .ref hO, .ref hF, .ref hR], cO hX 0 [.ref aX, .int (iI n)]] (fun r w => r = iI (if 0 ≤ i ∧ i ≤ n then 1 else 0) ∧ w = [cO x 4 [.ref hT, .ref hX, .ref hP, .ref hO, .ref hF, .ref hR], cO hX 0 [.ref aX, .int (iI n)]]) 0 0 := by
  refine xM.ofZ (by decide) rfl (Nat.le_of_ble_eq_true rfl) ?_
  intro P0 E0 S0 M0 A0 B0 T0 C0 AA QQ XX hnm ret
  refine g_iload_n XX d_CX_isSuffix_0 rfl 1 rfl ?_
  refine g_if_lt (tgt := 19) XX d_CX_isSuffix_1 (by decide) ⟨by omega, by omega⟩ (fun h1 => ?_) (fun h1 => ?_)
  · -- 1: yes
    have hz : ¬ (0 ≤ i ∧ i ≤ n) := by omega
    refine g_iconst XX d_CX_isSuffix_19 ?_
    exact ret _ _ _ _ [cO x 4 [.ref hT, .ref hX, .ref hP, .ref hO, .ref hF, .ref hR], cO hX 0 [.ref aX, .int (iI n)]] [0, 1] (by first | exact Or.inl rfl | exact Or.inr rfl) d_CX_isSuffix_20 (by decide) rfl (⟨by first | rw [if_pos hz] | rw [if_neg hz], rfl⟩)
  · -- 1: no
    refine g_iload_n XX d_CX_isSuffix_4 rfl 1 rfl ?_
    refine g_aload_n XX d_CX_isSuffix_5 rfl 0 rfl ?_
    refine g_get (C := R_CX) (T := T_CX) (N := 6) XX (tmw win0_CX) 0 rfl rfl 1 (by decide) (tm kw_10) rfl rfl d_CX_isSuffix_6 ?_
    refine g_get (C := R_BR) (T := T_BR) (N := 2) XX (tmw win0_BR) 1 rfl rfl 1 (by decide) (tm kw_33) rfl rfl d_CX_isSuffix_9 ?_
    refine g_icmp_gt (tgt := 19) XX d_CX_isSuffix_12 (by decide) ⟨by omega, by omega⟩ ⟨by omega, by omega⟩ (fun h12 => ?_) (fun h12 => ?_)
    · -- 12: yes
      have hz : ¬ (0 ≤ i ∧ i ≤ n) := by omega
      refine g_iconst XX d_CX_isSuffix_19 ?_
      exact ret _ _ _ _ [cO x 4 [.ref hT, .ref hX, .ref hP, .ref hO, .ref hF, .ref hR], cO hX 0 [.ref aX, .int (iI n)]] [0, 1] (by first | exact Or.inl rfl | exact Or.inr rfl) d_CX_isSuffix_20 (by decide) rfl (⟨by first | rw [if_pos hz] | rw [if_neg hz], rfl⟩)
    · -- 12: no
      have hz : 0 ≤ i ∧ i ≤ n := by omega
      refine g_iconst XX d_CX_isSuffix_15 ?_
      refine g_goto (tgt := 20) XX d_CX_isSuffix_16 (by decide) ?_
      exact ret _ _ _ _ [cO x 4 [.ref hT, .ref hX, .ref hP, .ref hO, .ref hF, .ref hR], cO hX 0 [.ref aX, .int (iI n)]] [0, 1] (by first | exact Or.inl rfl | exact Or.inr rfl) d_CX_isSuffix_20 (by decide) rfl (⟨by first | rw [if_pos hz] | rw [if_neg hz], rfl⟩)
abbrev rm_CX_size : Room := { frames := 0, cells := 0, slots := 0, locals := 0 }
set_option maxHeartbeats 4000000 in
set_option maxRecDepth 100000 in
theorem c_CX_size (l : Launch) (D : va_G) (cA : ClassId) (x hT hX hP hO hF hR : Nat) (aX : Nat) (n : Int)  : xM l y_CX_size w_CX_size rm_CX_size D vwCl [(cA, .int)] [.ref x] [cO x 4 [.ref hT, .ref hX, .ref hP, .ref hO, .ref hF, .ref hR], cO hX 0 [.ref aX, .int (iI n)]] (fun r w => r = iI n ∧ w = [cO x 4 [.ref hT, .ref hX, .ref hP, .ref hO, .ref hF, .ref hR], cO hX 0 [.ref aX, .int (iI n)]]) 0 0 := by
  refine xM.ofI (by decide) rfl (Nat.le_of_ble_eq_true rfl) ?_
  intro P0 E0 S0 M0 A0 B0 T0 C0 AA QQ XX hnm ret
  refine g_aload_n XX d_CX_size_0 rfl 0 rfl ?_
  refine g_get (C := R_CX) (T := T_CX) (N := 6) XX (tmw win0_CX) 0 rfl rfl 1 (by decide) (tm kw_10) rfl rfl d_CX_size_1 ?_
  refine g_get (C := R_BR) (T := T_BR) (N := 2) XX (tmw win0_BR) 1 rfl rfl 1 (by decide) (tm kw_33) rfl rfl d_CX_size_4 ?_
  exact ret _ _ _ _ [cO x 4 [.ref hT, .ref hX, .ref hP, .ref hO, .ref hF, .ref hR], cO hX 0 [.ref aX, .int (iI n)]] [0, 1] d_CX_size_7 (by decide) rfl (⟨rfl, rfl⟩)
abbrev rm_CX_at : Room := { frames := 0, cells := 0, slots := 0, locals := 0 }
set_option maxHeartbeats 4000000 in
set_option maxRecDepth 100000 in
theorem c_CX_at (l : Launch) (D : va_G) (cA : ClassId) (x hT hX hP hO hF hR : Nat) (aX : Nat) (fX X : Int → Int) (n i : Int) (hn : 0 ≤ n ∧ n ≤ 96) (hi : -2147483648 ≤ i ∧ i < 2147483648) (hfX : ag fX X n) : xM l y_CX_at w_CX_at rm_CX_at D vwCl [(cA, .int)] [.ref x, .int (iI i)] [cO x 4 [.ref hT, .ref hX, .ref hP, .ref hO, .ref hF, .ref hR], cO hX 0 [.ref aX, .int (iI n)], cR aX cA 96 fX] (fun r w => r = iI (if 0 ≤ i ∧ i < n then X i else -1) ∧ w = [cO x 4 [.ref hT, .ref hX, .ref hP, .ref hO, .ref hF, .ref hR], cO hX 0 [.ref aX, .int (iI n)], cR aX cA 96 fX]) 0 0 := by
  refine xM.ofI (by decide) rfl (Nat.le_of_ble_eq_true rfl) ?_
  intro P0 E0 S0 M0 A0 B0 T0 C0 AA QQ XX hnm ret
  refine g_iload_n XX d_CX_at_0 rfl 1 rfl ?_
  refine g_if_lt (tgt := 27) XX d_CX_at_1 (by decide) ⟨by omega, by omega⟩ (fun h1 => ?_) (fun h1 => ?_)
  · -- 1: yes
    have hz : ¬ (0 ≤ i ∧ i < n) := by omega
    refine g_iconst XX d_CX_at_27 ?_
    exact ret _ _ _ _ [cO x 4 [.ref hT, .ref hX, .ref hP, .ref hO, .ref hF, .ref hR], cO hX 0 [.ref aX, .int (iI n)], cR aX cA 96 fX] [0, 1, 2] d_CX_at_28 (by decide) rfl (⟨by first | rw [if_pos hz, e1] | rw [if_neg hz], rfl⟩)
  · -- 1: no
    refine g_iload_n XX d_CX_at_4 rfl 1 rfl ?_
    refine g_aload_n XX d_CX_at_5 rfl 0 rfl ?_
    refine g_get (C := R_CX) (T := T_CX) (N := 6) XX (tmw win0_CX) 0 rfl rfl 1 (by decide) (tm kw_10) rfl rfl d_CX_at_6 ?_
    refine g_get (C := R_BR) (T := T_BR) (N := 2) XX (tmw win0_BR) 1 rfl rfl 1 (by decide) (tm kw_33) rfl rfl d_CX_at_9 ?_
    refine g_icmp_ge (tgt := 27) XX d_CX_at_12 (by decide) ⟨by omega, by omega⟩ ⟨by omega, by omega⟩ (fun h12 => ?_) (fun h12 => ?_)
    · -- 12: yes
      have hz : ¬ (0 ≤ i ∧ i < n) := by omega
      refine g_iconst XX d_CX_at_27 ?_
      exact ret _ _ _ _ [cO x 4 [.ref hT, .ref hX, .ref hP, .ref hO, .ref hF, .ref hR], cO hX 0 [.ref aX, .int (iI n)], cR aX cA 96 fX] [0, 1, 2] d_CX_at_28 (by decide) rfl (⟨by first | rw [if_pos hz, e1] | rw [if_neg hz], rfl⟩)
    · -- 12: no
      refine g_aload_n XX d_CX_at_15 rfl 0 rfl ?_
      refine g_get (C := R_CX) (T := T_CX) (N := 6) XX (tmw win0_CX) 0 rfl rfl 1 (by decide) (tm kw_10) rfl rfl d_CX_at_16 ?_
      refine g_get (C := R_BR) (T := T_BR) (N := 2) XX (tmw win0_BR) 1 rfl rfl 0 (by decide) (tm kw_51) rfl rfl d_CX_at_19 ?_
      refine g_iload_n XX d_CX_at_22 rfl 1 rfl ?_
      refine g_iald XX 2 0 rfl rfl ⟨by omega, by omega, by decide⟩ d_CX_at_23 ?_
      have hz : 0 ≤ i ∧ i < n := by omega
      have e1 := hfX i (by omega) (by omega)
      refine g_goto (tgt := 28) XX d_CX_at_24 (by decide) ?_
      exact ret _ _ _ _ [cO x 4 [.ref hT, .ref hX, .ref hP, .ref hO, .ref hF, .ref hR], cO hX 0 [.ref aX, .int (iI n)], cR aX cA 96 fX] [0, 1, 2] d_CX_at_28 (by decide) rfl (⟨by first | rw [if_pos hz, e1] | rw [if_neg hz], rfl⟩)
abbrev rm_CX_suffix : Room := { frames := 1, cells := 0, slots := 0, locals := 21 }
set_option maxHeartbeats 4000000 in
set_option maxRecDepth 100000 in
theorem c_CX_suffix (l : Launch) (D : va_G) (cA : ClassId) (x hT hX hP hO hF hR : Nat) (aX o1 o2 o3 o4 : Nat) (sa X : Int → Int) (n i : Int) (hn : 0 ≤ n ∧ n ≤ 96) (hi : -2147483648 ≤ i ∧ i < 2147483648) (ha : ag sa (og X n) (n + 1)) : xM l y_CX_suffix w_CX_suffix rm_CX_suffix D vwCl [(cA, .int)] [.ref x, .int (iI i)] [cO x 4 [.ref hT, .ref hX, .ref hP, .ref hO, .ref hF, .ref hR], cO hX 0 [.ref aX, .int (iI n)], cO hO 3 [.ref o1, .ref o2, .ref o3, .ref o4], cR o1 cA 97 sa] (fun r w => r = iI (if 0 ≤ i ∧ i ≤ n then og X n i else -1) ∧ w = [cO x 4 [.ref hT, .ref hX, .ref hP, .ref hO, .ref hF, .ref hR], cO hX 0 [.ref aX, .int (iI n)], cO hO 3 [.ref o1, .ref o2, .ref o3, .ref o4], cR o1 cA 97 sa]) 0 0 := by
  refine xM.ofI (by decide) rfl (Nat.le_of_ble_eq_true rfl) ?_
  intro P0 E0 S0 M0 A0 B0 T0 C0 AA QQ XX hnm ret
  refine g_aload_n XX d_CX_suffix_0 rfl 0 rfl ?_
  refine g_iload_n XX d_CX_suffix_1 rfl 1 rfl ?_
  refine g_calli (As := [.int (iI i)]) (st := []) (wr := [cO hO 3 [.ref o1, .ref o2, .ref o3, .ref o4], cR o1 cA 97 sa]) XX (c_CX_isSuffix l D cA x hT hX hP hO hF hR aX n i (by first | assumption | omega) (by first | assumption | omega)) (x_cw 1 XX.2.2.2.2.1 (gi kw_52) rfl rfl (tm kw_49) (tm kw_53) (tm kw_54) (tm kw_55) ⟨by decide +kernel, by decide +kernel, by decide +kernel⟩ ⟨by decide, by decide⟩) [0, 1] [2, 3] rfl rfl (by decide) (by decide) (by decide) 0 4 rfl rfl rfl rfl (Nat.le_of_ble_eq_true rfl) d_CX_suffix_2 ⟨by decide, by decide⟩ (fun r_ w_ hq => ?_)
  obtain ⟨rfl, rfl⟩ := hq
  show xG P0 l E0 rm_CX_suffix S0 M0 A0 B0 T0 C0 QQ 2 D vwCl AA 0 0 [cO hO 3 [.ref o1, .ref o2, .ref o3, .ref o4], cR o1 cA 97 sa, cO x 4 [.ref hT, .ref hX, .ref hP, .ref hO, .ref hF, .ref hR], cO hX 0 [.ref aX, .int (iI n)]] 5 [(0, .ref x), (1, .int (iI i))] [.int (iI (if 0 ≤ i ∧ i ≤ n then 1 else 0))]
  refine g_if_eq (tgt := 20) XX d_CX_suffix_5 (by decide) zi (fun h5 => ?_) (fun h5 => ?_)
  · -- 5: yes
    have hz := zi_0 h5
    refine g_iconst XX d_CX_suffix_20 ?_
    exact ret _ _ _ _ [cO x 4 [.ref hT, .ref hX, .ref hP, .ref hO, .ref hF, .ref hR], cO hX 0 [.ref aX, .int (iI n)], cO hO 3 [.ref o1, .ref o2, .ref o3, .ref o4], cR o1 cA 97 sa] [2, 3, 0, 1] d_CX_suffix_21 (by decide) rfl (⟨by first | rw [if_pos hz, e1] | rw [if_neg hz], rfl⟩)
  · -- 5: no
    have hz := zi_1 h5
    refine g_aload_n XX d_CX_suffix_8 rfl 0 rfl ?_
    refine g_get (C := R_CX) (T := T_CX) (N := 6) XX (tmw win0_CX) 2 rfl rfl 3 (by decide) (tm kw_18) rfl rfl d_CX_suffix_9 ?_
    refine g_get (C := R_SO) (T := T_SO) (N := 4) XX (tmw win0_SO) 0 rfl rfl 0 (by decide) (tm kw_56) rfl rfl d_CX_suffix_12 ?_
    refine g_iload_n XX d_CX_suffix_15 rfl 1 rfl ?_
    refine g_iald XX 1 0 rfl rfl ⟨by omega, by omega, by decide⟩ d_CX_suffix_16 ?_
    have e1 := ha i (by omega) (by omega)
    refine g_goto (tgt := 21) XX d_CX_suffix_17 (by decide) ?_
    exact ret _ _ _ _ [cO x 4 [.ref hT, .ref hX, .ref hP, .ref hO, .ref hF, .ref hR], cO hX 0 [.ref aX, .int (iI n)], cO hO 3 [.ref o1, .ref o2, .ref o3, .ref o4], cR o1 cA 97 sa] [2, 3, 0, 1] d_CX_suffix_21 (by decide) rfl (⟨by first | rw [if_pos hz, e1] | rw [if_neg hz], rfl⟩)
abbrev rm_CX_rank : Room := { frames := 1, cells := 0, slots := 0, locals := 21 }
set_option maxHeartbeats 4000000 in
set_option maxRecDepth 100000 in
theorem c_CX_rank (l : Launch) (D : va_G) (cA : ClassId) (x hT hX hP hO hF hR : Nat) (aX o1 o2 o3 o4 : Nat) (ro X : Int → Int) (n i : Int) (hn : 0 ≤ n ∧ n ≤ 96) (hi : -2147483648 ≤ i ∧ i < 2147483648) (ha : ag ro (rk X n) (n + 1)) : xM l y_CX_rank w_CX_rank rm_CX_rank D vwCl [(cA, .int)] [.ref x, .int (iI i)] [cO x 4 [.ref hT, .ref hX, .ref hP, .ref hO, .ref hF, .ref hR], cO hX 0 [.ref aX, .int (iI n)], cO hO 3 [.ref o1, .ref o2, .ref o3, .ref o4], cR o2 cA 97 ro] (fun r w => r = iI (if 0 ≤ i ∧ i ≤ n then rk X n i else -1) ∧ w = [cO x 4 [.ref hT, .ref hX, .ref hP, .ref hO, .ref hF, .ref hR], cO hX 0 [.ref aX, .int (iI n)], cO hO 3 [.ref o1, .ref o2, .ref o3, .ref o4], cR o2 cA 97 ro]) 0 0 := by
  refine xM.ofI (by decide) rfl (Nat.le_of_ble_eq_true rfl) ?_
  intro P0 E0 S0 M0 A0 B0 T0 C0 AA QQ XX hnm ret
  refine g_aload_n XX d_CX_rank_0 rfl 0 rfl ?_
  refine g_iload_n XX d_CX_rank_1 rfl 1 rfl ?_
  refine g_calli (As := [.int (iI i)]) (st := []) (wr := [cO hO 3 [.ref o1, .ref o2, .ref o3, .ref o4], cR o2 cA 97 ro]) XX (c_CX_isSuffix l D cA x hT hX hP hO hF hR aX n i (by first | assumption | omega) (by first | assumption | omega)) (x_cw 1 XX.2.2.2.2.1 (gi kw_52) rfl rfl (tm kw_49) (tm kw_53) (tm kw_54) (tm kw_55) ⟨by decide +kernel, by decide +kernel, by decide +kernel⟩ ⟨by decide, by decide⟩) [0, 1] [2, 3] rfl rfl (by decide) (by decide) (by decide) 0 4 rfl rfl rfl rfl (Nat.le_of_ble_eq_true rfl) d_CX_rank_2 ⟨by decide, by decide⟩ (fun r_ w_ hq => ?_)
  obtain ⟨rfl, rfl⟩ := hq
  show xG P0 l E0 rm_CX_rank S0 M0 A0 B0 T0 C0 QQ 2 D vwCl AA 0 0 [cO hO 3 [.ref o1, .ref o2, .ref o3, .ref o4], cR o2 cA 97 ro, cO x 4 [.ref hT, .ref hX, .ref hP, .ref hO, .ref hF, .ref hR], cO hX 0 [.ref aX, .int (iI n)]] 5 [(0, .ref x), (1, .int (iI i))] [.int (iI (if 0 ≤ i ∧ i ≤ n then 1 else 0))]
  refine g_if_eq (tgt := 20) XX d_CX_rank_5 (by decide) zi (fun h5 => ?_) (fun h5 => ?_)
  · -- 5: yes
    have hz := zi_0 h5
    refine g_iconst XX d_CX_rank_20 ?_
    exact ret _ _ _ _ [cO x 4 [.ref hT, .ref hX, .ref hP, .ref hO, .ref hF, .ref hR], cO hX 0 [.ref aX, .int (iI n)], cO hO 3 [.ref o1, .ref o2, .ref o3, .ref o4], cR o2 cA 97 ro] [2, 3, 0, 1] d_CX_rank_21 (by decide) rfl (⟨by first | rw [if_pos hz, e1] | rw [if_neg hz], rfl⟩)
  · -- 5: no
    have hz := zi_1 h5
    refine g_aload_n XX d_CX_rank_8 rfl 0 rfl ?_
    refine g_get (C := R_CX) (T := T_CX) (N := 6) XX (tmw win0_CX) 2 rfl rfl 3 (by decide) (tm kw_18) rfl rfl d_CX_rank_9 ?_
    refine g_get (C := R_SO) (T := T_SO) (N := 4) XX (tmw win0_SO) 0 rfl rfl 1 (by decide) (tm kw_57) rfl rfl d_CX_rank_12 ?_
    refine g_iload_n XX d_CX_rank_15 rfl 1 rfl ?_
    refine g_iald XX 1 0 rfl rfl ⟨by omega, by omega, by decide⟩ d_CX_rank_16 ?_
    have e1 := ha i (by omega) (by omega)
    refine g_goto (tgt := 21) XX d_CX_rank_17 (by decide) ?_
    exact ret _ _ _ _ [cO x 4 [.ref hT, .ref hX, .ref hP, .ref hO, .ref hF, .ref hR], cO hX 0 [.ref aX, .int (iI n)], cO hO 3 [.ref o1, .ref o2, .ref o3, .ref o4], cR o2 cA 97 ro] [2, 3, 0, 1] d_CX_rank_21 (by decide) rfl (⟨by first | rw [if_pos hz, e1] | rw [if_neg hz], rfl⟩)
abbrev rm_CX_column : Room := { frames := 1, cells := 0, slots := 0, locals := 21 }
set_option maxHeartbeats 4000000 in
set_option maxRecDepth 100000 in
theorem c_CX_column (l : Launch) (D : va_G) (cA : ClassId) (x hT hX hP hO hF hR : Nat) (aX o1 o2 o3 o4 : Nat) (cl X : Int → Int) (n i : Int) (hn : 0 ≤ n ∧ n ≤ 96) (hi : -2147483648 ≤ i ∧ i < 2147483648) (ha : ag cl (cX X n) (n + 1)) : xM l y_CX_column w_CX_column rm_CX_column D vwCl [(cA, .int)] [.ref x, .int (iI i)] [cO x 4 [.ref hT, .ref hX, .ref hP, .ref hO, .ref hF, .ref hR], cO hX 0 [.ref aX, .int (iI n)], cO hO 3 [.ref o1, .ref o2, .ref o3, .ref o4], cR o4 cA 97 cl] (fun r w => r = iI (if 0 ≤ i ∧ i ≤ n then cX X n i else -1) ∧ w = [cO x 4 [.ref hT, .ref hX, .ref hP, .ref hO, .ref hF, .ref hR], cO hX 0 [.ref aX, .int (iI n)], cO hO 3 [.ref o1, .ref o2, .ref o3, .ref o4], cR o4 cA 97 cl]) 0 0 := by
  refine xM.ofI (by decide) rfl (Nat.le_of_ble_eq_true rfl) ?_
  intro P0 E0 S0 M0 A0 B0 T0 C0 AA QQ XX hnm ret
  refine g_aload_n XX d_CX_column_0 rfl 0 rfl ?_
  refine g_iload_n XX d_CX_column_1 rfl 1 rfl ?_
  refine g_calli (As := [.int (iI i)]) (st := []) (wr := [cO hO 3 [.ref o1, .ref o2, .ref o3, .ref o4], cR o4 cA 97 cl]) XX (c_CX_isSuffix l D cA x hT hX hP hO hF hR aX n i (by first | assumption | omega) (by first | assumption | omega)) (x_cw 1 XX.2.2.2.2.1 (gi kw_52) rfl rfl (tm kw_49) (tm kw_53) (tm kw_54) (tm kw_55) ⟨by decide +kernel, by decide +kernel, by decide +kernel⟩ ⟨by decide, by decide⟩) [0, 1] [2, 3] rfl rfl (by decide) (by decide) (by decide) 0 4 rfl rfl rfl rfl (Nat.le_of_ble_eq_true rfl) d_CX_column_2 ⟨by decide, by decide⟩ (fun r_ w_ hq => ?_)
  obtain ⟨rfl, rfl⟩ := hq
  show xG P0 l E0 rm_CX_column S0 M0 A0 B0 T0 C0 QQ 2 D vwCl AA 0 0 [cO hO 3 [.ref o1, .ref o2, .ref o3, .ref o4], cR o4 cA 97 cl, cO x 4 [.ref hT, .ref hX, .ref hP, .ref hO, .ref hF, .ref hR], cO hX 0 [.ref aX, .int (iI n)]] 5 [(0, .ref x), (1, .int (iI i))] [.int (iI (if 0 ≤ i ∧ i ≤ n then 1 else 0))]
  refine g_if_eq (tgt := 20) XX d_CX_column_5 (by decide) zi (fun h5 => ?_) (fun h5 => ?_)
  · -- 5: yes
    have hz := zi_0 h5
    refine g_iconst XX d_CX_column_20 ?_
    exact ret _ _ _ _ [cO x 4 [.ref hT, .ref hX, .ref hP, .ref hO, .ref hF, .ref hR], cO hX 0 [.ref aX, .int (iI n)], cO hO 3 [.ref o1, .ref o2, .ref o3, .ref o4], cR o4 cA 97 cl] [2, 3, 0, 1] d_CX_column_21 (by decide) rfl (⟨by first | rw [if_pos hz, e1] | rw [if_neg hz], rfl⟩)
  · -- 5: no
    have hz := zi_1 h5
    refine g_aload_n XX d_CX_column_8 rfl 0 rfl ?_
    refine g_get (C := R_CX) (T := T_CX) (N := 6) XX (tmw win0_CX) 2 rfl rfl 3 (by decide) (tm kw_18) rfl rfl d_CX_column_9 ?_
    refine g_get (C := R_SO) (T := T_SO) (N := 4) XX (tmw win0_SO) 0 rfl rfl 3 (by decide) (tm kw_58) rfl rfl d_CX_column_12 ?_
    refine g_iload_n XX d_CX_column_15 rfl 1 rfl ?_
    refine g_iald XX 1 0 rfl rfl ⟨by omega, by omega, by decide⟩ d_CX_column_16 ?_
    have e1 := ha i (by omega) (by omega)
    refine g_goto (tgt := 21) XX d_CX_column_17 (by decide) ?_
    exact ret _ _ _ _ [cO x 4 [.ref hT, .ref hX, .ref hP, .ref hO, .ref hF, .ref hR], cO hX 0 [.ref aX, .int (iI n)], cO hO 3 [.ref o1, .ref o2, .ref o3, .ref o4], cR o4 cA 97 cl] [2, 3, 0, 1] d_CX_column_21 (by decide) rfl (⟨by first | rw [if_pos hz, e1] | rw [if_neg hz], rfl⟩)
abbrev rm_CX_moved : Room := { frames := 1, cells := 0, slots := 0, locals := 21 }
set_option maxHeartbeats 4000000 in
set_option maxRecDepth 100000 in
theorem c_CX_moved (l : Launch) (D : va_G) (cA : ClassId) (x hT hX hP hO hF hR : Nat) (aX n1 l1 : Nat) (nu X : Int → Int) (n i : Int) (hn : 0 ≤ n ∧ n ≤ 96) (hi : -2147483648 ≤ i ∧ i < 2147483648) (ha : ag nu (mN (cX X n)) (n + 1)) : xM l y_CX_moved w_CX_moved rm_CX_moved D vwCl [(cA, .int)] [.ref x, .int (iI i)] [cO x 4 [.ref hT, .ref hX, .ref hP, .ref hO, .ref hF, .ref hR], cO hX 0 [.ref aX, .int (iI n)], cO hF 2 [.ref n1, .ref l1], cR n1 cA 97 nu] (fun r w => r = iI (if 0 ≤ i ∧ i ≤ n then mN (cX X n) i else -1) ∧ w = [cO x 4 [.ref hT, .ref hX, .ref hP, .ref hO, .ref hF, .ref hR], cO hX 0 [.ref aX, .int (iI n)], cO hF 2 [.ref n1, .ref l1], cR n1 cA 97 nu]) 0 0 := by
  refine xM.ofI (by decide) rfl (Nat.le_of_ble_eq_true rfl) ?_
  intro P0 E0 S0 M0 A0 B0 T0 C0 AA QQ XX hnm ret
  refine g_aload_n XX d_CX_moved_0 rfl 0 rfl ?_
  refine g_iload_n XX d_CX_moved_1 rfl 1 rfl ?_
  refine g_calli (As := [.int (iI i)]) (st := []) (wr := [cO hF 2 [.ref n1, .ref l1], cR n1 cA 97 nu]) XX (c_CX_isSuffix l D cA x hT hX hP hO hF hR aX n i (by first | assumption | omega) (by first | assumption | omega)) (x_cw 1 XX.2.2.2.2.1 (gi kw_52) rfl rfl (tm kw_49) (tm kw_53) (tm kw_54) (tm kw_55) ⟨by decide +kernel, by decide +kernel, by decide +kernel⟩ ⟨by decide, by decide⟩) [0, 1] [2, 3] rfl rfl (by decide) (by decide) (by decide) 0 4 rfl rfl rfl rfl (Nat.le_of_ble_eq_true rfl) d_CX_moved_2 ⟨by decide, by decide⟩ (fun r_ w_ hq => ?_)
  obtain ⟨rfl, rfl⟩ := hq
  show xG P0 l E0 rm_CX_moved S0 M0 A0 B0 T0 C0 QQ 2 D vwCl AA 0 0 [cO hF 2 [.ref n1, .ref l1], cR n1 cA 97 nu, cO x 4 [.ref hT, .ref hX, .ref hP, .ref hO, .ref hF, .ref hR], cO hX 0 [.ref aX, .int (iI n)]] 5 [(0, .ref x), (1, .int (iI i))] [.int (iI (if 0 ≤ i ∧ i ≤ n then 1 else 0))]
  refine g_if_eq (tgt := 20) XX d_CX_moved_5 (by decide) zi (fun h5 => ?_) (fun h5 => ?_)
  · -- 5: yes
    have hz := zi_0 h5
    refine g_iconst XX d_CX_moved_20 ?_
    exact ret _ _ _ _ [cO x 4 [.ref hT, .ref hX, .ref hP, .ref hO, .ref hF, .ref hR], cO hX 0 [.ref aX, .int (iI n)], cO hF 2 [.ref n1, .ref l1], cR n1 cA 97 nu] [2, 3, 0, 1] d_CX_moved_21 (by decide) rfl (⟨by first | rw [if_pos hz, e1] | rw [if_neg hz], rfl⟩)
  · -- 5: no
    have hz := zi_1 h5
    refine g_aload_n XX d_CX_moved_8 rfl 0 rfl ?_
    refine g_get (C := R_CX) (T := T_CX) (N := 6) XX (tmw win0_CX) 2 rfl rfl 4 (by decide) (tm kw_25) rfl rfl d_CX_moved_9 ?_
    refine g_get (C := R_FL) (T := T_FL) (N := 2) XX (tmw win0_FL) 0 rfl rfl 0 (by decide) (tm kw_60) rfl rfl d_CX_moved_12 ?_
    refine g_iload_n XX d_CX_moved_15 rfl 1 rfl ?_
    refine g_iald XX 1 0 rfl rfl ⟨by omega, by omega, by decide⟩ d_CX_moved_16 ?_
    have e1 := ha i (by omega) (by omega)
    refine g_goto (tgt := 21) XX d_CX_moved_17 (by decide) ?_
    exact ret _ _ _ _ [cO x 4 [.ref hT, .ref hX, .ref hP, .ref hO, .ref hF, .ref hR], cO hX 0 [.ref aX, .int (iI n)], cO hF 2 [.ref n1, .ref l1], cR n1 cA 97 nu] [2, 3, 0, 1] d_CX_moved_21 (by decide) rfl (⟨by first | rw [if_pos hz, e1] | rw [if_neg hz], rfl⟩)
abbrev rm_CX_common : Room := { frames := 0, cells := 0, slots := 0, locals := 0 }
set_option maxHeartbeats 4000000 in
set_option maxRecDepth 100000 in
theorem c_CX_common (l : Launch) (D : va_G) (cA : ClassId) (x hT hX hP hO hF hR : Nat) (aX o1 o2 o3 o4 : Nat) (co X : Int → Int) (n i : Int) (hn : 0 ≤ n ∧ n ≤ 96) (hi : -2147483648 ≤ i ∧ i < 2147483648) (ha : ag co (cm X n) n) : xM l y_CX_common w_CX_common rm_CX_common D vwCl [(cA, .int)] [.ref x, .int (iI i)] [cO x 4 [.ref hT, .ref hX, .ref hP, .ref hO, .ref hF, .ref hR], cO hX 0 [.ref aX, .int (iI n)], cO hO 3 [.ref o1, .ref o2, .ref o3, .ref o4], cR o3 cA 96 co] (fun r w => r = iI (if 0 ≤ i ∧ i < n then cm X n i else -1) ∧ w = [cO x 4 [.ref hT, .ref hX, .ref hP, .ref hO, .ref hF, .ref hR], cO hX 0 [.ref aX, .int (iI n)], cO hO 3 [.ref o1, .ref o2, .ref o3, .ref o4], cR o3 cA 96 co]) 0 0 := by
  refine xM.ofI (by decide) rfl (Nat.le_of_ble_eq_true rfl) ?_
  intro P0 E0 S0 M0 A0 B0 T0 C0 AA QQ XX hnm ret
  refine g_iload_n XX d_CX_common_0 rfl 1 rfl ?_
  refine g_if_lt (tgt := 27) XX d_CX_common_1 (by decide) ⟨by omega, by omega⟩ (fun h1 => ?_) (fun h1 => ?_)
  · -- 1: yes
    have hz : ¬ (0 ≤ i ∧ i < n) := by omega
    refine g_iconst XX d_CX_common_27 ?_
    exact ret _ _ _ _ [cO x 4 [.ref hT, .ref hX, .ref hP, .ref hO, .ref hF, .ref hR], cO hX 0 [.ref aX, .int (iI n)], cO hO 3 [.ref o1, .ref o2, .ref o3, .ref o4], cR o3 cA 96 co] [0, 1, 2, 3] d_CX_common_28 (by decide) rfl (⟨by first | rw [if_pos hz, e1] | rw [if_neg hz], rfl⟩)
  · -- 1: no
    refine g_iload_n XX d_CX_common_4 rfl 1 rfl ?_
    refine g_aload_n XX d_CX_common_5 rfl 0 rfl ?_
    refine g_get (C := R_CX) (T := T_CX) (N := 6) XX (tmw win0_CX) 0 rfl rfl 1 (by decide) (tm kw_10) rfl rfl d_CX_common_6 ?_
    refine g_get (C := R_BR) (T := T_BR) (N := 2) XX (tmw win0_BR) 1 rfl rfl 1 (by decide) (tm kw_33) rfl rfl d_CX_common_9 ?_
    refine g_icmp_ge (tgt := 27) XX d_CX_common_12 (by decide) ⟨by omega, by omega⟩ ⟨by omega, by omega⟩ (fun h12 => ?_) (fun h12 => ?_)
    · -- 12: yes
      have hz : ¬ (0 ≤ i ∧ i < n) := by omega
      refine g_iconst XX d_CX_common_27 ?_
      exact ret _ _ _ _ [cO x 4 [.ref hT, .ref hX, .ref hP, .ref hO, .ref hF, .ref hR], cO hX 0 [.ref aX, .int (iI n)], cO hO 3 [.ref o1, .ref o2, .ref o3, .ref o4], cR o3 cA 96 co] [0, 1, 2, 3] d_CX_common_28 (by decide) rfl (⟨by first | rw [if_pos hz, e1] | rw [if_neg hz], rfl⟩)
    · -- 12: no
      refine g_aload_n XX d_CX_common_15 rfl 0 rfl ?_
      refine g_get (C := R_CX) (T := T_CX) (N := 6) XX (tmw win0_CX) 0 rfl rfl 3 (by decide) (tm kw_18) rfl rfl d_CX_common_16 ?_
      refine g_get (C := R_SO) (T := T_SO) (N := 4) XX (tmw win0_SO) 2 rfl rfl 2 (by decide) (tm kw_59) rfl rfl d_CX_common_19 ?_
      refine g_iload_n XX d_CX_common_22 rfl 1 rfl ?_
      refine g_iald XX 3 0 rfl rfl ⟨by omega, by omega, by decide⟩ d_CX_common_23 ?_
      have hz : 0 ≤ i ∧ i < n := by omega
      have e1 := ha i (by omega) (by omega)
      refine g_goto (tgt := 28) XX d_CX_common_24 (by decide) ?_
      exact ret _ _ _ _ [cO x 4 [.ref hT, .ref hX, .ref hP, .ref hO, .ref hF, .ref hR], cO hX 0 [.ref aX, .int (iI n)], cO hO 3 [.ref o1, .ref o2, .ref o3, .ref o4], cR o3 cA 96 co] [0, 1, 2, 3] d_CX_common_28 (by decide) rfl (⟨by first | rw [if_pos hz, e1] | rw [if_neg hz], rfl⟩)
abbrev rm_CX_distinct : Room := { frames := 0, cells := 0, slots := 0, locals := 0 }
set_option maxHeartbeats 4000000 in
set_option maxRecDepth 100000 in
theorem c_CX_distinct (l : Launch) (D : va_G) (cA : ClassId) (x hT hX hP hO hF hR : Nat) (aX o1 o2 o3 o4 : Nat) (sa co X : Int → Int) (n : Int) (hn : 0 ≤ n ∧ n ≤ 96) (hsa : ag sa (og X n) (n + 1)) (hco : ag co (cm X n) n) : xM l y_CX_distinct w_CX_distinct rm_CX_distinct D vwCl [(cA, .int)] [.ref x] [cO x 4 [.ref hT, .ref hX, .ref hP, .ref hO, .ref hF, .ref hR], cO hX 0 [.ref aX, .int (iI n)], cO hO 3 [.ref o1, .ref o2, .ref o3, .ref o4], cR o1 cA 97 sa, cR o3 cA 96 co] (fun r w => r = iI (sm (fun r => n - og X n (r + 1) - cm X n r) n) ∧ w = [cO x 4 [.ref hT, .ref hX, .ref hP, .ref hO, .ref hF, .ref hR], cO hX 0 [.ref aX, .int (iI n)], cO hO 3 [.ref o1, .ref o2, .ref o3, .ref o4], cR o1 cA 97 sa, cR o3 cA 96 co]) 0 0 := by
  refine xM.ofI (by decide) rfl (Nat.le_of_ble_eq_true rfl) ?_
  intro P0 E0 S0 M0 A0 B0 T0 C0 AA QQ XX hnm ret
  refine g_iconst XX d_CX_distinct_0 ?_
  refine g_istore_n (lv' := [(1, .int (iI 0)), (0, .ref x)]) XX d_CX_distinct_1 rfl (by decide) rfl ?_
  refine g_iconst XX d_CX_distinct_2 ?_
  refine g_istore_n (lv' := [(2, .int (iI 0)), (1, .int (iI 0)), (0, .ref x)]) XX d_CX_distinct_3 rfl (by decide) rfl ?_
  have L4 : ∀ (k_4 : Nat) (c0 : Int) (r0 : Int), (0 ≤ r0 ∧ r0 ≤ n) → (c0 = sm (fun r => n - og X n (r + 1) - cm X n r) r0) → (n - r0).toNat = k_4 → xG P0 l E0 rm_CX_distinct S0 M0 A0 B0 T0 C0 QQ 4 D vwCl AA 0 0 [cO x 4 [.ref hT, .ref hX, .ref hP, .ref hO, .ref hF, .ref hR], cO hX 0 [.ref aX, .int (iI n)], cO hO 3 [.ref o1, .ref o2, .ref o3, .ref o4], cR o1 cA 97 sa, cR o3 cA 96 co] 4 [(2, .int (iI r0)), (1, .int (iI c0)), (0, .ref x)] [] := by
    refine x_ind (fun k_4 ih_4 c0 r0 h1 h2 hk_4 => ?_)
    refine g_iload_n XX d_CX_distinct_4 rfl 0 rfl ?_
    refine g_aload_n XX d_CX_distinct_5 rfl 2 rfl ?_
    refine g_get (C := R_CX) (T := T_CX) (N := 6) XX (tmw win0_CX) 0 rfl rfl 1 (by decide) (tm kw_10) rfl rfl d_CX_distinct_6 ?_
    refine g_get (C := R_BR) (T := T_BR) (N := 2) XX (tmw win0_BR) 1 rfl rfl 1 (by decide) (tm kw_33) rfl rfl d_CX_distinct_9 ?_
    refine g_icmp_ge (tgt := 55) XX d_CX_distinct_12 (by decide) ⟨by omega, by omega⟩ ⟨by omega, by omega⟩ (fun h12 => ?_) (fun h12 => ?_)
    · -- 12: yes
      refine g_iload_n XX d_CX_distinct_55 rfl 1 rfl ?_
      exact ret _ _ _ _ [cO x 4 [.ref hT, .ref hX, .ref hP, .ref hO, .ref hF, .ref hR], cO hX 0 [.ref aX, .int (iI n)], cO hO 3 [.ref o1, .ref o2, .ref o3, .ref o4], cR o1 cA 97 sa, cR o3 cA 96 co] [0, 1, 2, 3, 4] d_CX_distinct_56 (by decide) rfl (⟨by rw [h2, show r0 = n by omega], rfl⟩)
    · -- 12: no
      refine g_aload_n XX d_CX_distinct_15 rfl 2 rfl ?_
      refine g_get (C := R_CX) (T := T_CX) (N := 6) XX (tmw win0_CX) 0 rfl rfl 3 (by decide) (tm kw_18) rfl rfl d_CX_distinct_16 ?_
      refine g_get (C := R_SO) (T := T_SO) (N := 4) XX (tmw win0_SO) 2 rfl rfl 0 (by decide) (tm kw_56) rfl rfl d_CX_distinct_19 ?_
      refine g_iload_n XX d_CX_distinct_22 rfl 0 rfl ?_
      refine g_iconst XX d_CX_distinct_23 ?_
      refine g_iadd XX d_CX_distinct_24 ?_
      refine g_iald XX 3 0 rfl rfl ⟨by omega, by omega, by decide⟩ d_CX_distinct_25 ?_
      refine g_istore_n (lv' := [(3, .int (iI (sa (r0 + 1)))), (2, .int (iI r0)), (1, .int (iI c0)), (0, .ref x)]) XX d_CX_distinct_26 rfl (by decide) rfl ?_
      refine g_iload_n XX d_CX_distinct_27 rfl 2 rfl ?_
      refine g_aload_n XX d_CX_distinct_28 rfl 3 rfl ?_
      refine g_get (C := R_CX) (T := T_CX) (N := 6) XX (tmw win0_CX) 0 rfl rfl 1 (by decide) (tm kw_10) rfl rfl d_CX_distinct_29 ?_
      refine g_get (C := R_BR) (T := T_BR) (N := 2) XX (tmw win0_BR) 1 rfl rfl 1 (by decide) (tm kw_33) rfl rfl d_CX_distinct_32 ?_
      refine g_iload_n XX d_CX_distinct_35 rfl 0 rfl ?_
      refine g_isub XX d_CX_distinct_36 ?_
      refine g_aload_n XX d_CX_distinct_37 rfl 3 rfl ?_
      refine g_get (C := R_CX) (T := T_CX) (N := 6) XX (tmw win0_CX) 0 rfl rfl 3 (by decide) (tm kw_18) rfl rfl d_CX_distinct_38 ?_
      refine g_get (C := R_SO) (T := T_SO) (N := 4) XX (tmw win0_SO) 2 rfl rfl 2 (by decide) (tm kw_59) rfl rfl d_CX_distinct_41 ?_
      refine g_iload_n XX d_CX_distinct_44 rfl 1 rfl ?_
      refine g_iald XX 4 0 rfl rfl ⟨by omega, by omega, by decide⟩ d_CX_distinct_45 ?_
      refine g_isub XX d_CX_distinct_46 ?_
      refine g_iadd XX d_CX_distinct_47 ?_
      refine g_istore_n (lv' := [(1, .int (iI (c0 + ((n - (sa (r0 + 1))) - (co r0))))), (3, .int (iI (sa (r0 + 1)))), (2, .int (iI r0)), (0, .ref x)]) XX d_CX_distinct_48 rfl (by decide) rfl ?_
      refine g_iinc (lv' := [(2, .int (iI (r0 + 1))), (1, .int (iI (c0 + ((n - (sa (r0 + 1))) - (co r0))))), (3, .int (iI (sa (r0 + 1)))), (0, .ref x)]) XX d_CX_distinct_49 2 rfl (by decide) rfl ?_
      refine g_goto (tgt := 4) XX d_CX_distinct_52 (by decide) ?_
      refine g_lv (lv' := [(2, .int (iI (r0 + 1))), (1, .int (iI (c0 + ((n - (sa (r0 + 1))) - (co r0))))), (0, .ref x)]) [0, 1, 3] rfl ?_
      exact ih_4 _ (by omega) (c0 + ((n - (sa (r0 + 1))) - (co r0))) (r0 + 1) (by omega) (by rw [sm_s (by omega), ← h2, hsa (r0 + 1) (by omega) (by omega), hco r0 (by omega) (by omega)]) rfl
  exact L4 _ 0 0 (by omega) (rfl) rfl
abbrev rm_CX_repeat : Room := { frames := 1, cells := 0, slots := 0, locals := 21 }
set_option maxHeartbeats 4000000 in
set_option maxRecDepth 100000 in
theorem c_CX_repeat (l : Launch) (D : va_G) (cA : ClassId) (x hT hX hP hO hF hR : Nat) (aX o1 o2 o3 o4 : Nat) (sa co X : Int → Int) (n : Int) (hn : 0 ≤ n ∧ n ≤ 96) (hsa : ag sa (og X n) (n + 1)) (hco : ag co (cm X n) n) : xM l y_CX_repeat w_CX_repeat rm_CX_repeat D vwCl [(cA, .int)] [.ref x] [cO x 4 [.ref hT, .ref hX, .ref hP, .ref hO, .ref hF, .ref hR], cO hX 0 [.ref aX, .int (iI n)], cO hO 3 [.ref o1, .ref o2, .ref o3, .ref o4], cR o1 cA 97 sa, cR o3 cA 96 co] (fun r w => r = iI (rpt X n) ∧ w = [cO x 4 [.ref hT, .ref hX, .ref hP, .ref hO, .ref hF, .ref hR], cO hX 0 [.ref aX, .int (iI n)], cO hO 3 [.ref o1, .ref o2, .ref o3, .ref o4], cR o1 cA 97 sa, cR o3 cA 96 co]) 0 0 := by
  refine xM.ofI (by decide) rfl (Nat.le_of_ble_eq_true rfl) ?_
  intro P0 E0 S0 M0 A0 B0 T0 C0 AA QQ XX hnm ret
  refine g_iconst XX d_CX_repeat_0 ?_
  refine g_istore_n (lv' := [(1, .int (iI 0)), (0, .ref x)]) XX d_CX_repeat_1 rfl (by decide) rfl ?_
  refine g_iconst XX d_CX_repeat_2 ?_
  refine g_istore_n (lv' := [(2, .int (iI 0)), (1, .int (iI 0)), (0, .ref x)]) XX d_CX_repeat_3 rfl (by decide) rfl ?_
  refine g_iconst XX d_CX_repeat_4 ?_
  refine g_istore_n (lv' := [(3, .int (iI 0)), (2, .int (iI 0)), (1, .int (iI 0)), (0, .ref x)]) XX d_CX_repeat_5 rfl (by decide) rfl ?_
  have L6 : ∀ (k_6 : Nat) (b0 : Int) (l0 : Int) (r0 : Int), (0 ≤ r0 ∧ r0 ≤ n) → ((b0, l0) = rb (cm X n) (fun r => min (og X n r) (og X n (r + 1))) r0) → (n - r0).toNat = k_6 → xG P0 l E0 rm_CX_repeat S0 M0 A0 B0 T0 C0 QQ 6 D vwCl AA 0 0 [cO x 4 [.ref hT, .ref hX, .ref hP, .ref hO, .ref hF, .ref hR], cO hX 0 [.ref aX, .int (iI n)], cO hO 3 [.ref o1, .ref o2, .ref o3, .ref o4], cR o1 cA 97 sa, cR o3 cA 96 co] 6 [(3, .int (iI r0)), (2, .int (iI l0)), (1, .int (iI b0)), (0, .ref x)] [] := by
    refine x_ind (fun k_6 ih_6 b0 l0 r0 h1 h2 hk_6 => ?_)
    have rr := rpt_rng hn h1.1 h1.2 h2
    refine g_iload_n XX d_CX_repeat_6 rfl 0 rfl ?_
    refine g_aload_n XX d_CX_repeat_7 rfl 3 rfl ?_
    refine g_get (C := R_CX) (T := T_CX) (N := 6) XX (tmw win0_CX) 0 rfl rfl 1 (by decide) (tm kw_10) rfl rfl d_CX_repeat_8 ?_
    refine g_get (C := R_BR) (T := T_BR) (N := 2) XX (tmw win0_BR) 1 rfl rfl 1 (by decide) (tm kw_33) rfl rfl d_CX_repeat_11 ?_
    refine g_icmp_ge (tgt := 83) XX d_CX_repeat_14 (by decide) ⟨by omega, by omega⟩ ⟨by omega, by omega⟩ (fun h14 => ?_) (fun h14 => ?_)
    · -- 14: yes
      have hb : rb (cm X n) (fun r => min (og X n r) (og X n (r + 1))) n = (b0, l0) := by rw [h2, show r0 = n by omega]
      refine g_iload_n XX d_CX_repeat_83 rfl 2 rfl ?_
      refine g_if_ne (tgt := 91) XX d_CX_repeat_84 (by decide) ⟨by omega, by omega⟩ (fun h84 => ?_) (fun h84 => ?_)
      · -- 84: yes
        refine g_sipush (v := 128) XX d_CX_repeat_91 (by decide) ?_
        refine g_iload_n XX d_CX_repeat_94 rfl 2 rfl ?_
        refine g_imul XX d_CX_repeat_95 ?_
        refine g_iload_n XX d_CX_repeat_96 rfl 1 rfl ?_
        refine g_iadd XX d_CX_repeat_97 ?_
        exact ret _ _ _ _ [cO x 4 [.ref hT, .ref hX, .ref hP, .ref hO, .ref hF, .ref hR], cO hX 0 [.ref aX, .int (iI n)], cO hO 3 [.ref o1, .ref o2, .ref o3, .ref o4], cR o1 cA 97 sa, cR o3 cA 96 co] [0, 1, 2, 3, 4] d_CX_repeat_98 (by decide) rfl (⟨by first | rw [rpt_0 hb h84] | rw [rpt_1 hb h84], rfl⟩)
      · -- 84: no
        refine g_iconst XX d_CX_repeat_87 ?_
        refine g_goto (tgt := 98) XX d_CX_repeat_88 (by decide) ?_
        exact ret _ _ _ _ [cO x 4 [.ref hT, .ref hX, .ref hP, .ref hO, .ref hF, .ref hR], cO hX 0 [.ref aX, .int (iI n)], cO hO 3 [.ref o1, .ref o2, .ref o3, .ref o4], cR o1 cA 97 sa, cR o3 cA 96 co] [0, 1, 2, 3, 4] d_CX_repeat_98 (by decide) rfl (⟨by first | rw [rpt_0 hb h84] | rw [rpt_1 hb h84], rfl⟩)
    · -- 14: no
      have e1 := hco r0 (by omega) (by omega)
      have e2 := hsa r0 (by omega) (by omega)
      have e3 := hsa (r0 + 1) (by omega) (by omega)
      have g1 := cm_rng (X := X) (n := n) (r := r0) (by omega) (by omega)
      have g2 := og_rng (X := X) (n := n) (r := r0) (by omega) (by omega)
      have g3 := og_rng (X := X) (n := n) (r := r0 + 1) (by omega) (by omega)
      refine g_aload_n XX d_CX_repeat_17 rfl 3 rfl ?_
      refine g_get (C := R_CX) (T := T_CX) (N := 6) XX (tmw win0_CX) 0 rfl rfl 3 (by decide) (tm kw_18) rfl rfl d_CX_repeat_18 ?_
      refine g_get (C := R_SO) (T := T_SO) (N := 4) XX (tmw win0_SO) 2 rfl rfl 2 (by decide) (tm kw_59) rfl rfl d_CX_repeat_21 ?_
      refine g_iload_n XX d_CX_repeat_24 rfl 0 rfl ?_
      refine g_iald XX 4 0 rfl rfl ⟨by omega, by omega, by decide⟩ d_CX_repeat_25 ?_
      refine g_istore (lv' := [(4, .int (iI (co r0))), (3, .int (iI r0)), (2, .int (iI l0)), (1, .int (iI b0)), (0, .ref x)]) XX d_CX_repeat_26 (by decide) rfl ?_
      refine g_aload_n XX d_CX_repeat_28 rfl 4 rfl ?_
      refine g_get (C := R_CX) (T := T_CX) (N := 6) XX (tmw win0_CX) 0 rfl rfl 3 (by decide) (tm kw_18) rfl rfl d_CX_repeat_29 ?_
      refine g_get (C := R_SO) (T := T_SO) (N := 4) XX (tmw win0_SO) 2 rfl rfl 0 (by decide) (tm kw_56) rfl rfl d_CX_repeat_32 ?_
      refine g_iload_n XX d_CX_repeat_35 rfl 1 rfl ?_
      refine g_iald XX 3 0 rfl rfl ⟨by omega, by omega, by decide⟩ d_CX_repeat_36 ?_
      refine g_aload_n XX d_CX_repeat_37 rfl 4 rfl ?_
      refine g_get (C := R_CX) (T := T_CX) (N := 6) XX (tmw win0_CX) 0 rfl rfl 3 (by decide) (tm kw_18) rfl rfl d_CX_repeat_38 ?_
      refine g_get (C := R_SO) (T := T_SO) (N := 4) XX (tmw win0_SO) 2 rfl rfl 0 (by decide) (tm kw_56) rfl rfl d_CX_repeat_41 ?_
      refine g_iload_n XX d_CX_repeat_44 rfl 1 rfl ?_
      refine g_iconst XX d_CX_repeat_45 ?_
      refine g_iadd XX d_CX_repeat_46 ?_
      refine g_iald XX 3 0 rfl rfl ⟨by omega, by omega, by decide⟩ d_CX_repeat_47 ?_
      refine g_mmin XX (tm kw_61) (tm kw_62) (tm kw_63) (tm kw_64) (by decide) (Nat.le_of_ble_eq_true rfl) (by decide) (by decide) ⟨by omega, by omega⟩ ⟨by omega, by omega⟩ d_CX_repeat_48 ?_
      refine g_istore (lv' := [(5, .int (iI (min (sa r0) (sa (r0 + 1))))), (4, .int (iI (co r0))), (3, .int (iI r0)), (2, .int (iI l0)), (1, .int (iI b0)), (0, .ref x)]) XX d_CX_repeat_51 (by decide) rfl ?_
      refine g_iload XX d_CX_repeat_53 1 rfl ?_
      refine g_iload_n XX d_CX_repeat_55 rfl 4 rfl ?_
      refine g_icmp_gt (tgt := 71) XX d_CX_repeat_56 (by decide) ⟨by omega, by omega⟩ ⟨by omega, by omega⟩ (fun h56 => ?_) (fun h56 => ?_)
      · -- 56: yes
        refine g_iload XX d_CX_repeat_71 1 rfl ?_
        refine g_istore_n (lv' := [(1, .int (iI (co r0))), (5, .int (iI (min (sa r0) (sa (r0 + 1))))), (4, .int (iI (co r0))), (3, .int (iI r0)), (2, .int (iI l0)), (0, .ref x)]) XX d_CX_repeat_73 rfl (by decide) rfl ?_
        refine g_iload XX d_CX_repeat_74 1 rfl ?_
        refine g_istore_n (lv' := [(2, .int (iI (min (sa r0) (sa (r0 + 1))))), (1, .int (iI (co r0))), (5, .int (iI (min (sa r0) (sa (r0 + 1))))), (4, .int (iI (co r0))), (3, .int (iI r0)), (0, .ref x)]) XX d_CX_repeat_76 rfl (by decide) rfl ?_
        refine g_iinc (lv' := [(3, .int (iI (r0 + 1))), (2, .int (iI (min (sa r0) (sa (r0 + 1))))), (1, .int (iI (co r0))), (5, .int (iI (min (sa r0) (sa (r0 + 1))))), (4, .int (iI (co r0))), (0, .ref x)]) XX d_CX_repeat_77 4 rfl (by decide) rfl ?_
        refine g_goto (tgt := 6) XX d_CX_repeat_80 (by decide) ?_
        refine g_lv (lv' := [(3, .int (iI (r0 + 1))), (2, .int (iI (min (sa r0) (sa (r0 + 1))))), (1, .int (iI (co r0))), (0, .ref x)]) [0, 1, 2, 5] rfl ?_
        exact ih_6 _ (by omega) (co r0) (min (sa r0) (sa (r0 + 1))) (r0 + 1) (by omega) (by first | exact rb_put (by omega) h2 e1 (by rw [e2, e3]) (by omega) | exact rb_keep (by omega) h2 e1 (show min (sa r0) (sa (r0 + 1)) = _ by rw [e2, e3]) (by omega)) rfl
      · -- 56: no
        refine g_iload XX d_CX_repeat_59 1 rfl ?_
        refine g_iload_n XX d_CX_repeat_61 rfl 4 rfl ?_
        refine g_icmp_ne (tgt := 77) XX d_CX_repeat_62 (by decide) ⟨by omega, by omega⟩ ⟨by omega, by omega⟩ (fun h62 => ?_) (fun h62 => ?_)
        · -- 62: yes
          refine g_iinc (lv' := [(3, .int (iI (r0 + 1))), (5, .int (iI (min (sa r0) (sa (r0 + 1))))), (4, .int (iI (co r0))), (2, .int (iI l0)), (1, .int (iI b0)), (0, .ref x)]) XX d_CX_repeat_77 2 rfl (by decide) rfl ?_
          refine g_goto (tgt := 6) XX d_CX_repeat_80 (by decide) ?_
          refine g_lv (lv' := [(3, .int (iI (r0 + 1))), (2, .int (iI l0)), (1, .int (iI b0)), (0, .ref x)]) [0, 3, 4, 5] rfl ?_
          exact ih_6 _ (by omega) b0 l0 (r0 + 1) (by omega) (by first | exact rb_put (by omega) h2 e1 (by rw [e2, e3]) (by omega) | exact rb_keep (by omega) h2 e1 (show min (sa r0) (sa (r0 + 1)) = _ by rw [e2, e3]) (by omega)) rfl
        · -- 62: no
          refine g_iload XX d_CX_repeat_65 0 rfl ?_
          refine g_iload_n XX d_CX_repeat_67 rfl 3 rfl ?_
          refine g_icmp_ge (tgt := 77) XX d_CX_repeat_68 (by decide) ⟨by omega, by omega⟩ ⟨by omega, by omega⟩ (fun h68 => ?_) (fun h68 => ?_)
          · -- 68: yes
            refine g_iinc (lv' := [(3, .int (iI (r0 + 1))), (5, .int (iI (min (sa r0) (sa (r0 + 1))))), (4, .int (iI (co r0))), (2, .int (iI l0)), (1, .int (iI b0)), (0, .ref x)]) XX d_CX_repeat_77 2 rfl (by decide) rfl ?_
            refine g_goto (tgt := 6) XX d_CX_repeat_80 (by decide) ?_
            refine g_lv (lv' := [(3, .int (iI (r0 + 1))), (2, .int (iI l0)), (1, .int (iI b0)), (0, .ref x)]) [0, 3, 4, 5] rfl ?_
            exact ih_6 _ (by omega) b0 l0 (r0 + 1) (by omega) (by first | exact rb_put (by omega) h2 e1 (by rw [e2, e3]) (by omega) | exact rb_keep (by omega) h2 e1 (show min (sa r0) (sa (r0 + 1)) = _ by rw [e2, e3]) (by omega)) rfl
          · -- 68: no
            refine g_iload XX d_CX_repeat_71 1 rfl ?_
            refine g_istore_n (lv' := [(1, .int (iI (co r0))), (5, .int (iI (min (sa r0) (sa (r0 + 1))))), (4, .int (iI (co r0))), (3, .int (iI r0)), (2, .int (iI l0)), (0, .ref x)]) XX d_CX_repeat_73 rfl (by decide) rfl ?_
            refine g_iload XX d_CX_repeat_74 1 rfl ?_
            refine g_istore_n (lv' := [(2, .int (iI (min (sa r0) (sa (r0 + 1))))), (1, .int (iI (co r0))), (5, .int (iI (min (sa r0) (sa (r0 + 1))))), (4, .int (iI (co r0))), (3, .int (iI r0)), (0, .ref x)]) XX d_CX_repeat_76 rfl (by decide) rfl ?_
            refine g_iinc (lv' := [(3, .int (iI (r0 + 1))), (2, .int (iI (min (sa r0) (sa (r0 + 1))))), (1, .int (iI (co r0))), (5, .int (iI (min (sa r0) (sa (r0 + 1))))), (4, .int (iI (co r0))), (0, .ref x)]) XX d_CX_repeat_77 4 rfl (by decide) rfl ?_
            refine g_goto (tgt := 6) XX d_CX_repeat_80 (by decide) ?_
            refine g_lv (lv' := [(3, .int (iI (r0 + 1))), (2, .int (iI (min (sa r0) (sa (r0 + 1))))), (1, .int (iI (co r0))), (0, .ref x)]) [0, 1, 2, 5] rfl ?_
            exact ih_6 _ (by omega) (co r0) (min (sa r0) (sa (r0 + 1))) (r0 + 1) (by omega) (by first | exact rb_put (by omega) h2 e1 (by rw [e2, e3]) (by omega) | exact rb_keep (by omega) h2 e1 (show min (sa r0) (sa (r0 + 1)) = _ by rw [e2, e3]) (by omega)) rfl
  exact L6 _ 0 0 0 (by omega) (rfl) rfl
