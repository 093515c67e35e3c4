abbrev rm_SO_before : Room := { frames := 0, cells := 0, slots := 0, locals := 0 }
set_option maxHeartbeats 4000000 in
set_option maxRecDepth 100000 in
theorem c_SO_before (l : Launch) (D : va_G) (cA : ClassId) (h a1 a2 a3 a4 k a : Nat) (ro f X : Int → Int) (n : Int) (sh su : Int) (hn : 0 ≤ su ∧ su < sh ∧ sh ≤ n ∧ n ≤ 96) (hf : ag f X n) (hb : bt8 X n) (hr : ∀ p, su + 1 ≤ p → p ≤ n → ro p = rks X n (su + 1) p) : xM l y_SO_shorterIsBefore w_SO_shorterIsBefore rm_SO_before D vwCl [(cA, .int)] [.ref h, .ref k, .int (iI sh), .int (iI su)] [cO h 3 [.ref a1, .ref a2, .ref a3, .ref a4], cR a2 cA 97 ro, cO k 0 [.ref a, .int (iI n)], cR a cA 96 f] (fun r w => r = iI (if lb X n sh su then 1 else 0) ∧ w = [cO h 3 [.ref a1, .ref a2, .ref a3, .ref a4], cR a2 cA 97 ro, cO k 0 [.ref a, .int (iI n)], cR a cA 96 f]) 0 0 := by
  refine xM.ofZ (by decide) rfl (Nat.le_of_ble_eq_true rfl) ?_
  intro P0 E0 S0 M0 A0 B0 T0 C0 AA QQ XX hnm ret
  refine g_iload_n XX d_SO_shorterIsBefore_0 rfl 2 rfl ?_
  refine g_aload_n XX d_SO_shorterIsBefore_1 rfl 1 rfl ?_
  refine g_get (C := R_BR) (T := T_BR) (N := 2) XX (tmw win0_BR) 2 rfl rfl 1 (by decide) (tm kw_192) rfl rfl d_SO_shorterIsBefore_2 ?_
  refine g_icmp_ne (tgt := 10) XX d_SO_shorterIsBefore_5 (by decide) ⟨by omega, by omega⟩ ⟨by omega, by omega⟩ (fun h5 => ?_) (fun h5 => ?_)
  · -- 5: yes
    refine g_aload_n XX d_SO_shorterIsBefore_10 rfl 1 rfl ?_
    refine g_get (C := R_BR) (T := T_BR) (N := 2) XX (tmw win0_BR) 2 rfl rfl 0 (by decide) (tm kw_197) rfl rfl d_SO_shorterIsBefore_11 ?_
    refine g_iload_n XX d_SO_shorterIsBefore_14 rfl 2 rfl ?_
    refine g_iald XX 3 0 rfl rfl ⟨by omega, by omega, by decide⟩ d_SO_shorterIsBefore_15 ?_
    refine g_aload_n XX d_SO_shorterIsBefore_16 rfl 1 rfl ?_
    refine g_get (C := R_BR) (T := T_BR) (N := 2) XX (tmw win0_BR) 2 rfl rfl 0 (by decide) (tm kw_197) rfl rfl d_SO_shorterIsBefore_17 ?_
    refine g_iload_n XX d_SO_shorterIsBefore_20 rfl 3 rfl ?_
    refine g_iald XX 3 0 rfl rfl ⟨by omega, by omega, by decide⟩ d_SO_shorterIsBefore_21 ?_
    have e1 := hf sh (by omega) (by omega)
    have e2 := hf su (by omega) (by omega)
    have b1 := hb sh (by omega) (by omega)
    have b2 := hb su (by omega) (by omega)
    refine g_isub XX d_SO_shorterIsBefore_22 ?_
    refine g_istore (lv' := [(4, .int (iI ((f sh) - (f su)))), (0, .ref h), (1, .ref k), (2, .int (iI sh)), (3, .int (iI su))]) XX d_SO_shorterIsBefore_23 (by decide) rfl ?_
    refine g_iload XX d_SO_shorterIsBefore_25 0 rfl ?_
    refine g_if_eq (tgt := 43) XX d_SO_shorterIsBefore_27 (by decide) ⟨by omega, by omega⟩ (fun h27 => ?_) (fun h27 => ?_)
    · -- 27: yes
      refine g_aload_n XX d_SO_shorterIsBefore_43 rfl 1 rfl ?_
      refine g_get (C := R_SO) (T := T_SO) (N := 4) XX (tmw win0_SO) 0 rfl rfl 1 (by decide) (tm kw_189) rfl rfl d_SO_shorterIsBefore_44 ?_
      refine g_iload_n XX d_SO_shorterIsBefore_47 rfl 3 rfl ?_
      refine g_iconst XX d_SO_shorterIsBefore_48 ?_
      refine g_iadd XX d_SO_shorterIsBefore_49 ?_
      refine g_iald XX 1 0 rfl rfl ⟨by omega, by omega, by decide⟩ d_SO_shorterIsBefore_50 ?_
      refine g_aload_n XX d_SO_shorterIsBefore_51 rfl 1 rfl ?_
      refine g_get (C := R_SO) (T := T_SO) (N := 4) XX (tmw win0_SO) 0 rfl rfl 1 (by decide) (tm kw_189) rfl rfl d_SO_shorterIsBefore_52 ?_
      refine g_iload_n XX d_SO_shorterIsBefore_55 rfl 4 rfl ?_
      refine g_iconst XX d_SO_shorterIsBefore_56 ?_
      refine g_iadd XX d_SO_shorterIsBefore_57 ?_
      refine g_iald XX 1 0 rfl rfl ⟨by omega, by omega, by decide⟩ d_SO_shorterIsBefore_58 ?_
      have r1 := hr (sh + 1) (by omega) (by omega)
      have r2 := hr (su + 1) (by omega) (by omega)
      have q1 := rks_rng (X := X) (n := n) (s := su + 1) (p := sh + 1) (by omega) (by omega) (by omega) (by omega)
      have q2 := rks_rng (X := X) (n := n) (s := su + 1) (p := su + 1) (by omega) (by omega) (by omega) (by omega)
      refine g_icmp_ge (tgt := 66) XX d_SO_shorterIsBefore_59 (by decide) ⟨by omega, by omega⟩ ⟨by omega, by omega⟩ (fun h59 => ?_) (fun h59 => ?_)
      · -- 59: yes
        have hz : lb X n sh su = false := shb_f (s := su + 1) (by omega) (by omega) (by omega) (by omega) (by omega) (by omega) (by omega)
        refine g_iconst XX d_SO_shorterIsBefore_66 ?_
        exact ret _ _ _ _ [cO h 3 [.ref a1, .ref a2, .ref a3, .ref a4], cR a2 cA 97 ro, cO k 0 [.ref a, .int (iI n)], cR a cA 96 f] [0, 1, 2, 3] (by first | exact Or.inl rfl | exact Or.inr rfl) d_SO_shorterIsBefore_67 (by decide) rfl (⟨by rw [hz]; rfl, rfl⟩)
      · -- 59: no
        have hz : lb X n sh su = true := shb_t (s := su + 1) (by omega) (by omega) (by omega) (by omega) (by omega) (by omega) (by omega)
        refine g_iconst XX d_SO_shorterIsBefore_62 ?_
        refine g_goto (tgt := 67) XX d_SO_shorterIsBefore_63 (by decide) ?_
        exact ret _ _ _ _ [cO h 3 [.ref a1, .ref a2, .ref a3, .ref a4], cR a2 cA 97 ro, cO k 0 [.ref a, .int (iI n)], cR a cA 96 f] [0, 1, 2, 3] (by first | exact Or.inl rfl | exact Or.inr rfl) d_SO_shorterIsBefore_67 (by decide) rfl (⟨by rw [hz]; rfl, rfl⟩)
    · -- 27: no
      refine g_iload XX d_SO_shorterIsBefore_30 0 rfl ?_
      refine g_if_ge (tgt := 39) XX d_SO_shorterIsBefore_32 (by decide) ⟨by omega, by omega⟩ (fun h32 => ?_) (fun h32 => ?_)
      · -- 32: yes
        have hz : lb X n sh su = false := shb_gt (by omega) (by omega) (by omega)
        refine g_iconst XX d_SO_shorterIsBefore_39 ?_
        refine g_goto (tgt := 67) XX d_SO_shorterIsBefore_40 (by decide) ?_
        exact ret _ _ _ _ [cO h 3 [.ref a1, .ref a2, .ref a3, .ref a4], cR a2 cA 97 ro, cO k 0 [.ref a, .int (iI n)], cR a cA 96 f] [0, 1, 2, 3] (by first | exact Or.inl rfl | exact Or.inr rfl) d_SO_shorterIsBefore_67 (by decide) rfl (⟨by rw [hz]; rfl, rfl⟩)
      · -- 32: no
        have hz : lb X n sh su = true := shb_lt (by omega) (by omega) (by omega)
        refine g_iconst XX d_SO_shorterIsBefore_35 ?_
        refine g_goto (tgt := 67) XX d_SO_shorterIsBefore_36 (by decide) ?_
        exact ret _ _ _ _ [cO h 3 [.ref a1, .ref a2, .ref a3, .ref a4], cR a2 cA 97 ro, cO k 0 [.ref a, .int (iI n)], cR a cA 96 f] [0, 1, 2, 3] (by first | exact Or.inl rfl | exact Or.inr rfl) d_SO_shorterIsBefore_67 (by decide) rfl (⟨by rw [hz]; rfl, rfl⟩)
  · -- 5: no
    have hz : lb X n sh su = true := by rw [h5]; exact shb_end (by omega)
    refine g_iconst XX d_SO_shorterIsBefore_8 ?_
    exact ret _ _ _ _ [cO h 3 [.ref a1, .ref a2, .ref a3, .ref a4], cR a2 cA 97 ro, cO k 0 [.ref a, .int (iI n)], cR a cA 96 f] [0, 1, 2, 3] (by first | exact Or.inl rfl | exact Or.inr rfl) d_SO_shorterIsBefore_9 (by decide) rfl (⟨by rw [hz]; rfl, rfl⟩)
abbrev rm_SO_rank : Room := { frames := 1, cells := 0, slots := 0, locals := 24 }
set_option maxHeartbeats 4000000 in
set_option maxRecDepth 100000 in
theorem c_SO_rank (l : Launch) (D : va_G) (cA : ClassId) (h a1 a2 a3 a4 k a : Nat) (ro f X : Int → Int) (n : Int) (su : Int) (hn : 0 ≤ su ∧ su ≤ n ∧ n ≤ 96) (hf : ag f X n) (hb : bt8 X n) (hr : ∀ p, su + 1 ≤ p → p ≤ n → ro p = rks X n (su + 1) p) : xV l y_SO_rankAmongShorter w_SO_rankAmongShorter rm_SO_rank D vwCl [(cA, .int)] [.ref h, .ref k, .int (iI su)] [cO h 3 [.ref a1, .ref a2, .ref a3, .ref a4], cR a2 cA 97 ro, cO k 0 [.ref a, .int (iI n)], cR a cA 96 f] (fun w => ∃ (ro' : Int → Int), w = [cO h 3 [.ref a1, .ref a2, .ref a3, .ref a4], cR a2 cA 97 ro', cO k 0 [.ref a, .int (iI n)], cR a cA 96 f] ∧ (∀ p, su ≤ p → p ≤ n → ro' p = rks X n su p)) 0 0 := by
  refine xV.of (by decide) rfl (Nat.le_of_ble_eq_true rfl) ?_
  intro P0 E0 S0 M0 A0 B0 T0 C0 AA QQ XX hnm ret
  refine g_iconst XX d_SO_rankAmongShorter_0 ?_
  refine g_istore_n (lv' := [(3, .int (iI 0)), (0, .ref h), (1, .ref k), (2, .int (iI su))]) XX d_SO_rankAmongShorter_1 rfl (by decide) rfl ?_
  refine g_iload_n XX d_SO_rankAmongShorter_2 rfl 3 rfl ?_
  refine g_iconst XX d_SO_rankAmongShorter_3 ?_
  refine g_iadd XX d_SO_rankAmongShorter_4 ?_
  refine g_istore (lv' := [(4, .int (iI (su + 1))), (3, .int (iI 0)), (0, .ref h), (1, .ref k), (2, .int (iI su))]) XX d_SO_rankAmongShorter_5 (by decide) rfl ?_
  have L7 : ∀ (k_7 : Nat) (rank0 : Int) (sh : Int), (su + 1 ≤ sh ∧ sh ≤ n + 1) → (rank0 = rkc X n su sh) → (n + 1 - sh).toNat = k_7 → xG P0 l E0 rm_SO_rank S0 M0 A0 B0 T0 C0 QQ 5 D vwCl AA 0 0 [cO h 3 [.ref a1, .ref a2, .ref a3, .ref a4], cR a2 cA 97 ro, cO k 0 [.ref a, .int (iI n)], cR a cA 96 f] 7 [(4, .int (iI sh)), (3, .int (iI rank0)), (0, .ref h), (1, .ref k), (2, .int (iI su))] [] := by
    refine x_ind (fun k_7 ih_7 rank0 sh hs hrk hk_7 => ?_)
    refine g_iload XX d_SO_rankAmongShorter_7 0 rfl ?_
    refine g_aload_n XX d_SO_rankAmongShorter_9 rfl 3 rfl ?_
    refine g_get (C := R_BR) (T := T_BR) (N := 2) XX (tmw win0_BR) 2 rfl rfl 1 (by decide) (tm kw_192) rfl rfl d_SO_rankAmongShorter_10 ?_
    refine g_icmp_gt (tgt := 36) XX d_SO_rankAmongShorter_13 (by decide) ⟨by omega, by omega⟩ ⟨by omega, by omega⟩ (fun h13 => ?_) (fun h13 => ?_)
    · -- 13: yes
      have hrk2 : rank0 = rks X n (su + 1) su := by rw [hrk, show sh = n + 1 by omega]; exact rkc_end
      refine g_iload_n XX d_SO_rankAmongShorter_36 rfl 4 rfl ?_
      refine g_iconst XX d_SO_rankAmongShorter_37 ?_
      refine g_iadd XX d_SO_rankAmongShorter_38 ?_
      refine g_istore (lv' := [(4, .int (iI (su + 1))), (3, .int (iI rank0)), (0, .ref h), (1, .ref k), (2, .int (iI su))]) XX d_SO_rankAmongShorter_39 (by decide) rfl ?_
      have L41 : ∀ (k_41 : Nat) (sh2 : Int) (ro2 : Int → Int), (su + 1 ≤ sh2 ∧ sh2 ≤ n + 1) → (∀ p, su + 1 ≤ p → p < sh2 → ro2 p = rks X n su p) → (∀ p, sh2 ≤ p → p ≤ n → ro2 p = rks X n (su + 1) p) → (n + 1 - sh2).toNat = k_41 → xG P0 l E0 rm_SO_rank S0 M0 A0 B0 T0 C0 QQ 5 D vwCl AA 0 0 [cO h 3 [.ref a1, .ref a2, .ref a3, .ref a4], cR a2 cA 97 ro2, cO k 0 [.ref a, .int (iI n)], cR a cA 96 f] 41 [(4, .int (iI sh2)), (3, .int (iI rank0)), (0, .ref h), (1, .ref k), (2, .int (iI su))] [] := by
        refine x_ind (fun k_41 ih_41 sh2 ro2 hs2 hd1 hd2 hk_41 => ?_)
        refine g_iload XX d_SO_rankAmongShorter_41 0 rfl ?_
        refine g_aload_n XX d_SO_rankAmongShorter_43 rfl 3 rfl ?_
        refine g_get (C := R_BR) (T := T_BR) (N := 2) XX (tmw win0_BR) 2 rfl rfl 1 (by decide) (tm kw_192) rfl rfl d_SO_rankAmongShorter_44 ?_
        refine g_icmp_gt (tgt := 78) XX d_SO_rankAmongShorter_47 (by decide) ⟨by omega, by omega⟩ ⟨by omega, by omega⟩ (fun h47 => ?_) (fun h47 => ?_)
        · -- 47: yes
          refine g_aload_n XX d_SO_rankAmongShorter_78 rfl 2 rfl ?_
          refine g_get (C := R_SO) (T := T_SO) (N := 4) XX (tmw win0_SO) 0 rfl rfl 1 (by decide) (tm kw_189) rfl rfl d_SO_rankAmongShorter_79 ?_
          refine g_iload_n XX d_SO_rankAmongShorter_82 rfl 4 rfl ?_
          refine g_iload_n XX d_SO_rankAmongShorter_83 rfl 1 rfl ?_
          refine g_iast (ws' := [cO h 3 [.ref a1, .ref a2, .ref a3, .ref a4], cR a2 cA 97 (iup ro2 su rank0), cO k 0 [.ref a, .int (iI n)], cR a cA 96 f]) XX 1 0 rfl rfl ⟨by omega, by omega, by decide⟩ rfl d_SO_rankAmongShorter_84 ?_
          exact ret _ _ _ [cO h 3 [.ref a1, .ref a2, .ref a3, .ref a4], cR a2 cA 97 (iup ro2 su rank0), cO k 0 [.ref a, .int (iI n)], cR a cA 96 f] [0, 1, 2, 3] d_SO_rankAmongShorter_85 (by decide) rfl (⟨iup ro2 su rank0, rfl, fun p a b => by
      by_cases z : p = su
      · rw [iup_eq z, z, ras_self (by omega) (by omega)]; exact hrk2
      · rw [iup_ne z]; exact hd1 p (by omega) (by omega)⟩)
        · -- 47: no
          refine g_aload_n XX d_SO_rankAmongShorter_50 rfl 2 rfl ?_
          refine g_get (C := R_SO) (T := T_SO) (N := 4) XX (tmw win0_SO) 0 rfl rfl 1 (by decide) (tm kw_189) rfl rfl d_SO_rankAmongShorter_51 ?_
          refine g_iload XX d_SO_rankAmongShorter_54 0 rfl ?_
          refine g_iald XX 1 0 rfl rfl ⟨by omega, by omega, by decide⟩ d_SO_rankAmongShorter_56 ?_
          refine g_iload_n XX d_SO_rankAmongShorter_57 rfl 1 rfl ?_
          have e1 := hd2 sh2 (by omega) (by omega)
          have q1 := rks_rng (X := X) (n := n) (s := su + 1) (p := sh2) (by omega) (by omega) (by omega) (by omega)
          have q2 : 0 ≤ rks X n (su + 1) su ∧ rks X n (su + 1) su ≤ n + 1 := rkc_rng (X := X) (n := n) (s := su) (i := n + 1) (by omega)
          have rs := ras_s (X := X) (n := n) (s := su) (p := sh2) (by omega) (by omega) (by omega)
          refine g_icmp_lt (tgt := 72) XX d_SO_rankAmongShorter_58 (by decide) ⟨by omega, by omega⟩ ⟨by omega, by omega⟩ (fun h58 => ?_) (fun h58 => ?_)
          · -- 58: yes
            refine g_iinc (lv' := [(4, .int (iI (sh2 + 1))), (3, .int (iI rank0)), (0, .ref h), (1, .ref k), (2, .int (iI su))]) XX d_SO_rankAmongShorter_72 0 rfl (by decide) rfl ?_
            refine g_goto (tgt := 41) XX d_SO_rankAmongShorter_75 (by decide) ?_
            exact ih_41 _ (by omega) (sh2 + 1) ro2 (by omega) (by first | exact ras_keep hd1 (by rw [rs, if_neg (by omega)]; omega) | exact ras_put hd1 (by rw [rs, if_pos (by omega)]; omega)) (by first | exact ras_rest hd2 | exact fun p a b => hd2 p (by omega) b) rfl
          · -- 58: no
            refine g_aload_n XX d_SO_rankAmongShorter_61 rfl 2 rfl ?_
            refine g_get (C := R_SO) (T := T_SO) (N := 4) XX (tmw win0_SO) 0 rfl rfl 1 (by decide) (tm kw_189) rfl rfl d_SO_rankAmongShorter_62 ?_
            refine g_iload XX d_SO_rankAmongShorter_65 0 rfl ?_
            refine g_dup2 XX d_SO_rankAmongShorter_67 rfl rfl ?_
            refine g_iald XX 1 0 rfl rfl ⟨by omega, by omega, by decide⟩ d_SO_rankAmongShorter_68 ?_
            refine g_iconst XX d_SO_rankAmongShorter_69 ?_
            refine g_iadd XX d_SO_rankAmongShorter_70 ?_
            refine g_iast (ws' := [cO h 3 [.ref a1, .ref a2, .ref a3, .ref a4], cR a2 cA 97 (iup ro2 sh2 ((ro2 sh2) + 1)), cO k 0 [.ref a, .int (iI n)], cR a cA 96 f]) XX 1 0 rfl rfl ⟨by omega, by omega, by decide⟩ rfl d_SO_rankAmongShorter_71 ?_
            refine g_iinc (lv' := [(4, .int (iI (sh2 + 1))), (3, .int (iI rank0)), (0, .ref h), (1, .ref k), (2, .int (iI su))]) XX d_SO_rankAmongShorter_72 0 rfl (by decide) rfl ?_
            refine g_goto (tgt := 41) XX d_SO_rankAmongShorter_75 (by decide) ?_
            exact ih_41 _ (by omega) (sh2 + 1) (iup ro2 sh2 ((ro2 sh2) + 1)) (by omega) (by first | exact ras_keep hd1 (by rw [rs, if_neg (by omega)]; omega) | exact ras_put hd1 (by rw [rs, if_pos (by omega)]; omega)) (by first | exact ras_rest hd2 | exact fun p a b => hd2 p (by omega) b) rfl
      exact L41 _ (su + 1) ro (by omega) (fun p a b => by omega) (hr) rfl
    · -- 13: no
      refine g_aload_n XX d_SO_rankAmongShorter_16 rfl 2 rfl ?_
      refine g_aload_n XX d_SO_rankAmongShorter_17 rfl 3 rfl ?_
      refine g_iload XX d_SO_rankAmongShorter_18 0 rfl ?_
      refine g_iload_n XX d_SO_rankAmongShorter_20 rfl 4 rfl ?_
      refine g_calli (As := [.ref k, .int (iI sh), .int (iI su)]) (st := []) (wr := []) XX (c_SO_before l D cA h a1 a2 a3 a4 k a ro f X n sh su (by first | assumption | omega) (by first | assumption | omega) (by first | assumption | omega) (by first | assumption | omega)) (x_cw 3 XX.2.2.2.2.1 (gi kw_199) rfl rfl (tm kw_14) (tm kw_200) (tm kw_201) (tm kw_202) ⟨by decide +kernel, by decide +kernel, by decide +kernel⟩ ⟨by decide, by decide⟩) [0, 1, 2, 3] [] rfl rfl (by decide) (by decide) (by decide) 0 3 rfl rfl rfl rfl (Nat.le_of_ble_eq_true rfl) d_SO_rankAmongShorter_21 ⟨by decide, by decide⟩ (fun r_ w_ hq => ?_)
      obtain ⟨rfl, rfl⟩ := hq
      show xG P0 l E0 rm_SO_rank S0 M0 A0 B0 T0 C0 QQ 5 D vwCl AA 0 0 [cO h 3 [.ref a1, .ref a2, .ref a3, .ref a4], cR a2 cA 97 ro, cO k 0 [.ref a, .int (iI n)], cR a cA 96 f] 24 [(4, .int (iI sh)), (3, .int (iI rank0)), (0, .ref h), (1, .ref k), (2, .int (iI su))] [.int (iI (if lb X n sh su then 1 else 0))]
      refine g_if_eq (tgt := 30) XX d_SO_rankAmongShorter_24 (by decide) z01 (fun h24 => ?_) (fun h24 => ?_)
      · -- 24: yes
        refine g_iinc (lv' := [(4, .int (iI (sh + 1))), (3, .int (iI rank0)), (0, .ref h), (1, .ref k), (2, .int (iI su))]) XX d_SO_rankAmongShorter_30 0 rfl (by decide) rfl ?_
        refine g_goto (tgt := 7) XX d_SO_rankAmongShorter_33 (by decide) ?_
        exact ih_7 _ (by omega) rank0 (sh + 1) (by omega) (by rw [rkc_s (by omega) (by omega) (by omega), hrk]; first | (rw [z01_0 h24]; simp) | (rw [z01_1 h24]; simp)) rfl
      · -- 24: no
        refine g_iinc (lv' := [(3, .int (iI (rank0 + 1))), (4, .int (iI sh)), (0, .ref h), (1, .ref k), (2, .int (iI su))]) XX d_SO_rankAmongShorter_27 1 rfl (by decide) rfl ?_
        refine g_iinc (lv' := [(4, .int (iI (sh + 1))), (3, .int (iI (rank0 + 1))), (0, .ref h), (1, .ref k), (2, .int (iI su))]) XX d_SO_rankAmongShorter_30 1 rfl (by decide) rfl ?_
        refine g_goto (tgt := 7) XX d_SO_rankAmongShorter_33 (by decide) ?_
        exact ih_7 _ (by omega) (rank0 + 1) (sh + 1) (by omega) (by rw [rkc_s (by omega) (by omega) (by omega), hrk]; first | (rw [z01_0 h24]; simp) | (rw [z01_1 h24]; simp)) rfl
  exact L7 _ 0 (su + 1) (by omega) (rkc_0.symm) rfl
abbrev rm_SO_arrange : Room := { frames := 2, cells := 0, slots := 0, locals := 48 }
set_option maxHeartbeats 4000000 in
set_option maxRecDepth 100000 in
theorem c_SO_arrange (l : Launch) (D : va_G) (cA : ClassId) (h a1 a2 a3 a4 k a : Nat) (sa ro co cl f X : Int → Int) (n : Int) (hn : 0 ≤ n ∧ n ≤ 96) (hf : ag f X n) (hb : bt8 X n) : xV l y_SO_arrange w_SO_arrange rm_SO_arrange D vwCl [(cA, .int)] [.ref h, .ref k] [cO h 3 [.ref a1, .ref a2, .ref a3, .ref a4], cR a1 cA 97 sa, cR a2 cA 97 ro, cR a3 cA 96 co, cR a4 cA 97 cl, cO k 0 [.ref a, .int (iI n)], cR a cA 96 f] (fun w => ∃ (sa' : Int → Int), ∃ (ro' : Int → Int), ∃ (co' : Int → Int), ∃ (cl' : Int → Int), w = [cO h 3 [.ref a1, .ref a2, .ref a3, .ref a4], cR a1 cA 97 sa', cR a2 cA 97 ro', cR a3 cA 96 co', cR a4 cA 97 cl', cO k 0 [.ref a, .int (iI n)], cR a cA 96 f] ∧ (ag sa' (og X n) (n + 1)) ∧ (ag ro' (rk X n) (n + 1)) ∧ (ag co' (cm X n) n) ∧ (ag cl' (cX X n) (n + 1))) 0 0 := by
  refine xV.of (by decide) rfl (Nat.le_of_ble_eq_true rfl) ?_
  intro P0 E0 S0 M0 A0 B0 T0 C0 AA QQ XX hnm ret
  refine g_aload_n XX d_SO_arrange_0 rfl 1 rfl ?_
  refine g_get (C := R_BR) (T := T_BR) (N := 2) XX (tmw win0_BR) 5 rfl rfl 1 (by decide) (tm kw_192) rfl rfl d_SO_arrange_1 ?_
  refine g_istore_n (lv' := [(2, .int (iI n)), (0, .ref h), (1, .ref k)]) XX d_SO_arrange_4 rfl (by decide) rfl ?_
  have L5 : ∀ (k_5 : Nat) (s0 : Int) (ro2 : Int → Int), (-1 ≤ s0 ∧ s0 ≤ n) → (∀ p, s0 + 1 ≤ p → p ≤ n → ro2 p = rks X n (s0 + 1) p) → (s0 + 1).toNat = k_5 → xG P0 l E0 rm_SO_arrange S0 M0 A0 B0 T0 C0 QQ 4 D vwCl AA 0 0 [cO h 3 [.ref a1, .ref a2, .ref a3, .ref a4], cR a1 cA 97 sa, cR a2 cA 97 ro2, cR a3 cA 96 co, cR a4 cA 97 cl, cO k 0 [.ref a, .int (iI n)], cR a cA 96 f] 5 [(2, .int (iI s0)), (0, .ref h), (1, .ref k)] [] := by
    refine x_ind (fun k_5 ih_5 s0 ro2 h1 h2 hk_5 => ?_)
    refine g_iload_n XX d_SO_arrange_5 rfl 0 rfl ?_
    refine g_if_lt (tgt := 21) XX d_SO_arrange_6 (by decide) ⟨by omega, by omega⟩ (fun h6 => ?_) (fun h6 => ?_)
    · -- 6: yes
      have hro : ag ro2 (rk X n) (n + 1) := fun p a b => by rw [h2 p (by omega) (by omega), show s0 + 1 = 0 by omega, rks_0]
      refine g_iconst XX d_SO_arrange_21 ?_
      refine g_istore_n (lv' := [(2, .int (iI 0)), (0, .ref h), (1, .ref k)]) XX d_SO_arrange_22 rfl (by decide) rfl ?_
      have L23 : ∀ (k_23 : Nat) (i2 : Int) (sa2 : Int → Int) (cl2 : Int → Int), (0 ≤ i2 ∧ i2 ≤ n + 1) → (∀ p, 0 ≤ p → p < i2 → sa2 (rk X n p) = p ∧ cl2 (rk X n p) = (if p = 0 then -2 else X (p - 1))) → (n + 1 - i2).toNat = k_23 → xG P0 l E0 rm_SO_arrange S0 M0 A0 B0 T0 C0 QQ 4 D vwCl AA 0 0 [cO h 3 [.ref a1, .ref a2, .ref a3, .ref a4], cR a1 cA 97 sa2, cR a2 cA 97 ro2, cR a3 cA 96 co, cR a4 cA 97 cl2, cO k 0 [.ref a, .int (iI n)], cR a cA 96 f] 23 [(2, .int (iI i2)), (0, .ref h), (1, .ref k)] [] := by
        refine x_ind (fun k_23 ih_23 i2 sa2 cl2 h3 h4 hk_23 => ?_)
        refine g_iload_n XX d_SO_arrange_23 rfl 0 rfl ?_
        refine g_aload_n XX d_SO_arrange_24 rfl 2 rfl ?_
        refine g_get (C := R_BR) (T := T_BR) (N := 2) XX (tmw win0_BR) 5 rfl rfl 1 (by decide) (tm kw_192) rfl rfl d_SO_arrange_25 ?_
        refine g_icmp_gt (tgt := 74) XX d_SO_arrange_28 (by decide) ⟨by omega, by omega⟩ ⟨by omega, by omega⟩ (fun h28 => ?_) (fun h28 => ?_)
        · -- 28: yes
          have hse := ord_end (X := X) (n := n) (by omega) (fun p a b => h4 p a (by omega))
          refine g_iconst XX d_SO_arrange_74 ?_
          refine g_istore_n (lv' := [(2, .int (iI 0)), (0, .ref h), (1, .ref k)]) XX d_SO_arrange_75 rfl (by decide) rfl ?_
          have L76 : ∀ (k_76 : Nat) (i3 : Int) (co2 : Int → Int), (0 ≤ i3 ∧ i3 ≤ n) → (ag co2 (cm X n) i3) → (n - i3).toNat = k_76 → xG P0 l E0 rm_SO_arrange S0 M0 A0 B0 T0 C0 QQ 4 D vwCl AA 0 0 [cO h 3 [.ref a1, .ref a2, .ref a3, .ref a4], cR a1 cA 97 sa2, cR a2 cA 97 ro2, cR a3 cA 96 co2, cR a4 cA 97 cl2, cO k 0 [.ref a, .int (iI n)], cR a cA 96 f] 76 [(2, .int (iI i3)), (0, .ref h), (1, .ref k)] [] := by
            refine x_ind (fun k_76 ih_76 i3 co2 h5 h6_ hk_76 => ?_)
            refine g_iload_n XX d_SO_arrange_76 rfl 0 rfl ?_
            refine g_aload_n XX d_SO_arrange_77 rfl 2 rfl ?_
            refine g_get (C := R_BR) (T := T_BR) (N := 2) XX (tmw win0_BR) 5 rfl rfl 1 (by decide) (tm kw_192) rfl rfl d_SO_arrange_78 ?_
            refine g_icmp_ge (tgt := 115) XX d_SO_arrange_81 (by decide) ⟨by omega, by omega⟩ ⟨by omega, by omega⟩ (fun h81 => ?_) (fun h81 => ?_)
            · -- 81: yes
              exact ret _ _ _ [cO h 3 [.ref a1, .ref a2, .ref a3, .ref a4], cR a1 cA 97 sa2, cR a2 cA 97 ro2, cR a3 cA 96 co2, cR a4 cA 97 cl2, cO k 0 [.ref a, .int (iI n)], cR a cA 96 f] [0, 1, 2, 3, 4, 5, 6] d_SO_arrange_115 (by decide) rfl (⟨sa2, ro2, co2, cl2, rfl, hse.1, hro, ag_le h6_ (by omega), hse.2⟩)
            · -- 81: no
              refine g_aload_n XX d_SO_arrange_84 rfl 1 rfl ?_
              refine g_get (C := R_SO) (T := T_SO) (N := 4) XX (tmw win0_SO) 0 rfl rfl 2 (by decide) (tm kw_190) rfl rfl d_SO_arrange_85 ?_
              refine g_iload_n XX d_SO_arrange_88 rfl 0 rfl ?_
              refine g_aload_n XX d_SO_arrange_89 rfl 2 rfl ?_
              refine g_aload_n XX d_SO_arrange_90 rfl 1 rfl ?_
              refine g_get (C := R_SO) (T := T_SO) (N := 4) XX (tmw win0_SO) 0 rfl rfl 0 (by decide) (tm kw_188) rfl rfl d_SO_arrange_91 ?_
              refine g_iload_n XX d_SO_arrange_94 rfl 0 rfl ?_
              refine g_iald XX 1 0 rfl rfl ⟨by omega, by omega, by decide⟩ d_SO_arrange_95 ?_
              refine g_aload_n XX d_SO_arrange_96 rfl 2 rfl ?_
              refine g_aload_n XX d_SO_arrange_97 rfl 1 rfl ?_
              refine g_get (C := R_SO) (T := T_SO) (N := 4) XX (tmw win0_SO) 0 rfl rfl 0 (by decide) (tm kw_188) rfl rfl d_SO_arrange_98 ?_
              refine g_iload_n XX d_SO_arrange_101 rfl 0 rfl ?_
              refine g_iconst XX d_SO_arrange_102 ?_
              refine g_iadd XX d_SO_arrange_103 ?_
              refine g_iald XX 1 0 rfl rfl ⟨by omega, by omega, by decide⟩ d_SO_arrange_104 ?_
              have e3 := hse.1 i3 (by omega) (by omega)
              have e4 := hse.1 (i3 + 1) (by omega) (by omega)
              have g3 := og_rng (X := X) (n := n) (r := i3) (by omega) (by omega)
              have g4 := og_rng (X := X) (n := n) (r := i3 + 1) (by omega) (by omega)
              refine g_calli (As := [.int (iI (sa2 i3)), .ref k, .int (iI (sa2 (i3 + 1)))]) (st := [.int (iI i3), .ref a3]) (wr := [cO h 3 [.ref a1, .ref a2, .ref a3, .ref a4], cR a1 cA 97 sa2, cR a2 cA 97 ro2, cR a3 cA 96 co2, cR a4 cA 97 cl2]) XX (c_BR_alikeS l D cA k a f X n (sa2 i3) (sa2 (i3 + 1)) (by first | assumption | omega) (by first | assumption | omega) (by first | assumption | omega) (by first | assumption | omega) (by first | assumption | omega)) (x_cw 3 XX.2.2.2.2.1 (gi kw_81) rfl rfl (tm kw_5) (tm kw_198) (tm kw_83) (tm kw_84) ⟨by decide +kernel, by decide +kernel, by decide +kernel⟩ ⟨by decide, by decide⟩) [5, 6] [0, 1, 2, 3, 4] rfl rfl (by decide) (by decide) (by decide) 5 0 rfl rfl rfl rfl (Nat.le_of_ble_eq_true rfl) d_SO_arrange_105 ⟨by decide, by decide⟩ (fun r_ w_ hq => ?_)
              obtain ⟨rfl, rfl⟩ := hq
              show xG P0 l E0 rm_SO_arrange S0 M0 A0 B0 T0 C0 QQ 4 D vwCl AA 0 0 [cO h 3 [.ref a1, .ref a2, .ref a3, .ref a4], cR a1 cA 97 sa2, cR a2 cA 97 ro2, cR a3 cA 96 co2, cR a4 cA 97 cl2, cO k 0 [.ref a, .int (iI n)], cR a cA 96 f] 108 [(2, .int (iI i3)), (0, .ref h), (1, .ref k)] [.int (iI (al X n X n (sa2 i3) (sa2 (i3 + 1)))), .int (iI i3), .ref a3]
              refine g_iast (ws' := [cO h 3 [.ref a1, .ref a2, .ref a3, .ref a4], cR a1 cA 97 sa2, cR a2 cA 97 ro2, cR a3 cA 96 (iup co2 i3 (al X n X n (sa2 i3) (sa2 (i3 + 1)))), cR a4 cA 97 cl2, cO k 0 [.ref a, .int (iI n)], cR a cA 96 f]) XX 3 0 rfl rfl ⟨by omega, by omega, by decide⟩ rfl d_SO_arrange_108 ?_
              refine g_iinc (lv' := [(2, .int (iI (i3 + 1))), (0, .ref h), (1, .ref k)]) XX d_SO_arrange_109 0 rfl (by decide) rfl ?_
              refine g_goto (tgt := 76) XX d_SO_arrange_112 (by decide) ?_
              exact ih_76 _ (by omega) (i3 + 1) (iup co2 i3 (al X n X n (sa2 i3) (sa2 (i3 + 1)))) (by omega) (ag_s h6_ (by rw [e3, e4]; rfl)) rfl
          exact L76 _ 0 co (by omega) (ag_0 (by omega)) rfl
        · -- 28: no
          refine g_aload_n XX d_SO_arrange_31 rfl 1 rfl ?_
          refine g_get (C := R_SO) (T := T_SO) (N := 4) XX (tmw win0_SO) 0 rfl rfl 1 (by decide) (tm kw_189) rfl rfl d_SO_arrange_32 ?_
          refine g_iload_n XX d_SO_arrange_35 rfl 0 rfl ?_
          refine g_iald XX 2 0 rfl rfl ⟨by omega, by omega, by decide⟩ d_SO_arrange_36 ?_
          have e1 := hro i2 (by omega) (by omega)
          have q1 := rk_rng (X := X) (n := n) (p := i2) (by omega) (by omega)
          refine g_istore_n (lv' := [(3, .int (iI (ro2 i2))), (2, .int (iI i2)), (0, .ref h), (1, .ref k)]) XX d_SO_arrange_37 rfl (by decide) rfl ?_
          refine g_aload_n XX d_SO_arrange_38 rfl 2 rfl ?_
          refine g_get (C := R_SO) (T := T_SO) (N := 4) XX (tmw win0_SO) 0 rfl rfl 0 (by decide) (tm kw_188) rfl rfl d_SO_arrange_39 ?_
          refine g_iload_n XX d_SO_arrange_42 rfl 0 rfl ?_
          refine g_iload_n XX d_SO_arrange_43 rfl 1 rfl ?_
          refine g_iast (ws' := [cO h 3 [.ref a1, .ref a2, .ref a3, .ref a4], cR a1 cA 97 (iup sa2 (ro2 i2) i2), cR a2 cA 97 ro2, cR a3 cA 96 co, cR a4 cA 97 cl2, cO k 0 [.ref a, .int (iI n)], cR a cA 96 f]) XX 1 0 rfl rfl ⟨by omega, by omega, by decide⟩ rfl d_SO_arrange_44 ?_
          refine g_aload_n XX d_SO_arrange_45 rfl 2 rfl ?_
          refine g_get (C := R_SO) (T := T_SO) (N := 4) XX (tmw win0_SO) 0 rfl rfl 3 (by decide) (tm kw_191) rfl rfl d_SO_arrange_46 ?_
          refine g_iload_n XX d_SO_arrange_49 rfl 0 rfl ?_
          refine g_iload_n XX d_SO_arrange_50 rfl 1 rfl ?_
          refine g_if_ne (tgt := 59) XX d_SO_arrange_51 (by decide) ⟨by omega, by omega⟩ (fun h51 => ?_) (fun h51 => ?_)
          · -- 51: yes
            refine g_aload_n XX d_SO_arrange_59 rfl 3 rfl ?_
            refine g_get (C := R_BR) (T := T_BR) (N := 2) XX (tmw win0_BR) 5 rfl rfl 0 (by decide) (tm kw_197) rfl rfl d_SO_arrange_60 ?_
            refine g_iload_n XX d_SO_arrange_63 rfl 1 rfl ?_
            refine g_iconst XX d_SO_arrange_64 ?_
            refine g_isub XX d_SO_arrange_65 ?_
            refine g_iald XX 6 0 rfl rfl ⟨by omega, by omega, by decide⟩ d_SO_arrange_66 ?_
            refine g_iast (ws' := [cO h 3 [.ref a1, .ref a2, .ref a3, .ref a4], cR a1 cA 97 (iup sa2 (ro2 i2) i2), cR a2 cA 97 ro2, cR a3 cA 96 co, cR a4 cA 97 (iup cl2 (ro2 i2) (f (i2 - 1))), cO k 0 [.ref a, .int (iI n)], cR a cA 96 f]) XX 4 0 rfl rfl ⟨by omega, by omega, by decide⟩ rfl d_SO_arrange_67 ?_
            refine g_iinc (lv' := [(2, .int (iI (i2 + 1))), (3, .int (iI (ro2 i2))), (0, .ref h), (1, .ref k)]) XX d_SO_arrange_68 1 rfl (by decide) rfl ?_
            refine g_goto (tgt := 23) XX d_SO_arrange_71 (by decide) ?_
            refine g_lv (lv' := [(2, .int (iI (i2 + 1))), (0, .ref h), (1, .ref k)]) [0, 2, 3] rfl ?_
            exact ih_23 _ (by omega) (i2 + 1) (iup sa2 (ro2 i2) i2) (iup cl2 (ro2 i2) (f (i2 - 1))) (by omega) (by first | exact ord_put (by omega) e1 (by rw [if_pos h51]) h4 | exact ord_put (by omega) e1 (by rw [if_neg h51]; exact hf _ (by omega) (by omega)) h4) rfl
          · -- 51: no
            refine g_bipush (v := -2) XX d_SO_arrange_54 (by decide) ?_
            refine g_goto (tgt := 67) XX d_SO_arrange_56 (by decide) ?_
            refine g_iast (ws' := [cO h 3 [.ref a1, .ref a2, .ref a3, .ref a4], cR a1 cA 97 (iup sa2 (ro2 i2) i2), cR a2 cA 97 ro2, cR a3 cA 96 co, cR a4 cA 97 (iup cl2 (ro2 i2) (-2)), cO k 0 [.ref a, .int (iI n)], cR a cA 96 f]) XX 4 0 rfl rfl ⟨by omega, by omega, by decide⟩ rfl d_SO_arrange_67 ?_
            refine g_iinc (lv' := [(2, .int (iI (i2 + 1))), (3, .int (iI (ro2 i2))), (0, .ref h), (1, .ref k)]) XX d_SO_arrange_68 1 rfl (by decide) rfl ?_
            refine g_goto (tgt := 23) XX d_SO_arrange_71 (by decide) ?_
            refine g_lv (lv' := [(2, .int (iI (i2 + 1))), (0, .ref h), (1, .ref k)]) [0, 2, 3] rfl ?_
            exact ih_23 _ (by omega) (i2 + 1) (iup sa2 (ro2 i2) i2) (iup cl2 (ro2 i2) (-2)) (by omega) (by first | exact ord_put (by omega) e1 (by rw [if_pos h51]) h4 | exact ord_put (by omega) e1 (by rw [if_neg h51]; exact hf _ (by omega) (by omega)) h4) rfl
      exact L23 _ 0 sa cl (by omega) (fun p a b => by omega) rfl
    · -- 6: no
      refine g_aload_n XX d_SO_arrange_9 rfl 1 rfl ?_
      refine g_aload_n XX d_SO_arrange_10 rfl 2 rfl ?_
      refine g_iload_n XX d_SO_arrange_11 rfl 0 rfl ?_
      refine g_callv (As := [.ref k, .int (iI s0)]) (st := []) (wr := [cR a1 cA 97 sa, cR a3 cA 96 co, cR a4 cA 97 cl]) XX (c_SO_rank l D cA h a1 a2 a3 a4 k a ro2 f X n s0 (by first | assumption | omega) (by first | assumption | omega) (by first | assumption | omega) (by first | assumption | omega)) (x_cw 2 XX.2.2.2.2.1 (gi kw_193) rfl rfl (tm kw_14) (tm kw_194) (tm kw_195) (tm kw_196) ⟨by decide +kernel, by decide +kernel, by decide +kernel⟩ ⟨by decide, by decide⟩) [0, 2, 5, 6] [1, 3, 4] rfl rfl (by decide) (by decide) (by decide) 0 3 rfl rfl rfl rfl (Nat.le_of_ble_eq_true rfl) d_SO_arrange_12 ⟨by decide, by decide⟩ (fun w_ hq => ?_)
      obtain ⟨ro3, rfl, u12_0⟩ := hq
      show xG P0 l E0 rm_SO_arrange S0 M0 A0 B0 T0 C0 QQ 4 D vwCl AA 0 0 [cR a1 cA 97 sa, cR a3 cA 96 co, cR a4 cA 97 cl, cO h 3 [.ref a1, .ref a2, .ref a3, .ref a4], cR a2 cA 97 ro3, cO k 0 [.ref a, .int (iI n)], cR a cA 96 f] 15 [(2, .int (iI s0)), (0, .ref h), (1, .ref k)] []
      refine g_iinc (lv' := [(2, .int (iI (s0 + (-1)))), (0, .ref h), (1, .ref k)]) XX d_SO_arrange_15 0 rfl (by decide) rfl ?_
      refine g_goto (tgt := 5) XX d_SO_arrange_18 (by decide) ?_
      refine g_ws (ws' := [cO h 3 [.ref a1, .ref a2, .ref a3, .ref a4], cR a1 cA 97 sa, cR a2 cA 97 ro3, cR a3 cA 96 co, cR a4 cA 97 cl, cO k 0 [.ref a, .int (iI n)], cR a cA 96 f]) [3, 0, 4, 1, 2, 5, 6] (by decide) rfl ?_
      exact ih_5 _ (by omega) (s0 + (-1)) ro3 (by omega) (by rw [show s0 + (-1) + 1 = s0 by omega]; exact u12_0) rfl
  exact L5 _ n ro (by omega) (fun p a b => by omega) rfl
