abbrev rm_M_moved : Room := { frames := 1, cells := 0, slots := 0, locals := 21 }
set_option maxHeartbeats 4000000 in
set_option maxRecDepth 100000 in
theorem c_M_moved (l : Launch) (D : va_G) (cA : ClassId) (y b1 b2 b3 b4 b5 b6 b7 : Nat) (f2 f3 f5 X : Int → Int) (t n m i : Int) (hn : 0 ≤ n ∧ n ≤ 96) (hfX : ag f2 X n) (hbX : bt8 X n) (hfO : ag f3 (og X n) (n + 1)) (hi : -2147483648 ≤ i ∧ i < 2147483648) : xM l y_MO_moved w_MO_moved rm_M_moved D vwCl [(cA, .int)] [.ref y, .int (iI i)] [cO y 5 [.int (iI t), .ref b1, .int (iI n), .ref b2, .ref b3, .int (iI m), .ref b4, .ref b5, .ref b6, .ref b7], cR b2 cA 96 f2, cR b3 cA 97 f3, cR b5 cA 257 f5] (fun r w => ∃ (f5' : Int → Int), r = iI (if 0 ≤ i ∧ i ≤ n then mN (cX X n) i else -1) ∧ w = [cO y 5 [.int (iI t), .ref b1, .int (iI n), .ref b2, .ref b3, .int (iI m), .ref b4, .ref b5, .ref b6, .ref b7], cR b2 cA 96 f2, cR b3 cA 97 f3, cR b5 cA 257 f5'] ∧ (True)) 0 0 := by
  refine xM.ofI (by decide) rfl (Nat.le_of_ble_eq_true rfl) ?_
  intro P0 E0 S0 M0 A0 B0 T0 C0 AA QQ XX hnm ret
  refine g_iload_n XX d_MO_moved_0 rfl 1 rfl ?_
  refine g_if_lt (tgt := 12) XX d_MO_moved_1 (by decide) ⟨by omega, by omega⟩ (fun h1 => ?_) (fun h1 => ?_)
  · -- 1: yes
    have hz : ¬ (0 ≤ i ∧ i ≤ n) := by omega
    refine g_iconst XX d_MO_moved_12 ?_
    exact ret _ _ _ _ [cO y 5 [.int (iI t), .ref b1, .int (iI n), .ref b2, .ref b3, .int (iI m), .ref b4, .ref b5, .ref b6, .ref b7], cR b2 cA 96 f2, cR b3 cA 97 f3, cR b5 cA 257 f5] [0, 1, 2, 3] d_MO_moved_13 (by decide) rfl (⟨f5, by rw [if_neg hz], rfl, trivial⟩)
  · -- 1: no
    refine g_iload_n XX d_MO_moved_4 rfl 1 rfl ?_
    refine g_aload_n XX d_MO_moved_5 rfl 0 rfl ?_
    refine g_get (C := R_MO) (T := T_MO) (N := 10) XX (tmw win0_MO) 0 rfl rfl 2 (by decide) (tm kw_119) rfl rfl d_MO_moved_6 ?_
    refine g_icmp_le (tgt := 14) XX d_MO_moved_9 (by decide) ⟨by omega, by omega⟩ ⟨by omega, by omega⟩ (fun h9 => ?_) (fun h9 => ?_)
    · -- 9: yes
      have hz : 0 ≤ i ∧ i ≤ n := by omega
      refine g_aload_n XX d_MO_moved_14 rfl 0 rfl ?_
      refine g_get (C := R_MO) (T := T_MO) (N := 10) XX (tmw win0_MO) 0 rfl rfl 7 (by decide) (tm kw_114) rfl rfl d_MO_moved_15 ?_
      refine g_iconst XX d_MO_moved_18 ?_
      refine g_sipush (v := 256) XX d_MO_moved_19 (by decide) ?_
      refine g_iast (ws' := [cO y 5 [.int (iI t), .ref b1, .int (iI n), .ref b2, .ref b3, .int (iI m), .ref b4, .ref b5, .ref b6, .ref b7], cR b2 cA 96 f2, cR b3 cA 97 f3, cR b5 cA 257 (iup f5 0 256)]) XX 3 0 rfl rfl ⟨by omega, by omega, by decide⟩ rfl d_MO_moved_22 ?_
      refine g_iconst XX d_MO_moved_23 ?_
      refine g_istore_n (lv' := [(2, .int (iI 0)), (0, .ref y), (1, .int (iI i))]) XX d_MO_moved_24 rfl (by decide) rfl ?_
      have L25 : ∀ (k_25 : Nat) (b0 : Int) (f52 : Int → Int), (0 ≤ b0 ∧ b0 ≤ 256) → (ag f52 (fun j => ph (mL0 j)) (b0 + 1)) → (256 - b0).toNat = k_25 → xG P0 l E0 rm_M_moved S0 M0 A0 B0 T0 C0 QQ 6 D vwCl AA 0 0 [cO y 5 [.int (iI t), .ref b1, .int (iI n), .ref b2, .ref b3, .int (iI m), .ref b4, .ref b5, .ref b6, .ref b7], cR b2 cA 96 f2, cR b3 cA 97 f3, cR b5 cA 257 f52] 25 [(2, .int (iI b0)), (0, .ref y), (1, .int (iI i))] [] := by
        refine x_ind (fun k_25 ih_25 b0 f52 h1 h2 hk_25 => ?_)
        refine g_iload_n XX d_MO_moved_25 rfl 0 rfl ?_
        refine g_sipush (v := 256) XX d_MO_moved_26 (by decide) ?_
        refine g_icmp_ge (tgt := 47) XX d_MO_moved_29 (by decide) ⟨by omega, by omega⟩ ⟨by omega, by omega⟩ (fun h29 => ?_) (fun h29 => ?_)
        · -- 29: yes
          refine g_iconst XX d_MO_moved_47 ?_
          refine g_istore_n (lv' := [(2, .int (iI 0)), (0, .ref y), (1, .int (iI i))]) XX d_MO_moved_48 rfl (by decide) rfl ?_
          refine g_iconst XX d_MO_moved_49 ?_
          refine g_istore_n (lv' := [(3, .int (iI 0)), (2, .int (iI 0)), (0, .ref y), (1, .int (iI i))]) XX d_MO_moved_50 rfl (by decide) rfl ?_
          have L51 : ∀ (k_51 : Nat) (nu0 : Int) (r0 : Int) (f53 : Int → Int), (0 ≤ r0 ∧ r0 ≤ i + 1) → (ag f53 (fun j => ph (mS (cX X n) r0 j)) 257) → (r0 = 0 ∨ nu0 = mN (cX X n) (r0 - 1)) → (i + 1 - r0).toNat = k_51 → xG P0 l E0 rm_M_moved S0 M0 A0 B0 T0 C0 QQ 6 D vwCl AA 0 0 [cO y 5 [.int (iI t), .ref b1, .int (iI n), .ref b2, .ref b3, .int (iI m), .ref b4, .ref b5, .ref b6, .ref b7], cR b2 cA 96 f2, cR b3 cA 97 f3, cR b5 cA 257 f53] 51 [(3, .int (iI r0)), (2, .int (iI nu0)), (0, .ref y), (1, .int (iI i))] [] := by
            refine x_ind (fun k_51 ih_51 nu0 r0 f53 k1 k2 k3 hk_51 => ?_)
            refine g_iload_n XX d_MO_moved_51 rfl 0 rfl ?_
            refine g_iload_n XX d_MO_moved_52 rfl 3 rfl ?_
            refine g_icmp_gt (tgt := 126) XX d_MO_moved_53 (by decide) ⟨by omega, by omega⟩ ⟨by omega, by omega⟩ (fun h53 => ?_) (fun h53 => ?_)
            · -- 53: yes
              refine g_iload_n XX d_MO_moved_126 rfl 1 rfl ?_
              exact ret _ _ _ _ [cO y 5 [.int (iI t), .ref b1, .int (iI n), .ref b2, .ref b3, .int (iI m), .ref b4, .ref b5, .ref b6, .ref b7], cR b2 cA 96 f2, cR b3 cA 97 f3, cR b5 cA 257 f53] [0, 1, 2, 3] d_MO_moved_127 (by decide) rfl (⟨f53, congrArg iI (by rw [if_pos hz]; exact (k3.resolve_left (by omega)).trans (by rw [show r0 - 1 = i by omega])), rfl, trivial⟩)
            · -- 53: no
              refine g_aload_n XX d_MO_moved_56 rfl 2 rfl ?_
              refine g_iload_n XX d_MO_moved_57 rfl 0 rfl ?_
              refine g_calli (As := [.int (iI r0)]) (st := []) (wr := [cR b5 cA 257 f53]) XX (c_M_bef1 l D cA y b1 b2 b3 b4 b5 b6 b7 f2 f3 X t n m r0 (by first | assumption | omega) (by first | assumption | omega) (by first | assumption | omega) (by first | assumption | omega) (by first | assumption | omega)) (x_cw 1 XX.2.2.2.2.1 (gi kw_137) rfl rfl (tm kw_123) (tm kw_138) (tm kw_139) (tm kw_140) ⟨by decide +kernel, by decide +kernel, by decide +kernel⟩ ⟨by decide, by decide⟩) [0, 1, 2] [3] rfl rfl (by decide) (by decide) (by decide) 0 5 rfl rfl rfl rfl (Nat.le_of_ble_eq_true rfl) d_MO_moved_58 ⟨by decide, by decide⟩ (fun r_ w_ hq => ?_)
              obtain ⟨rfl, rfl⟩ := hq
              show xG P0 l E0 rm_M_moved S0 M0 A0 B0 T0 C0 QQ 6 D vwCl AA 0 0 [cR b5 cA 257 f53, cO y 5 [.int (iI t), .ref b1, .int (iI n), .ref b2, .ref b3, .int (iI m), .ref b4, .ref b5, .ref b6, .ref b7], cR b2 cA 96 f2, cR b3 cA 97 f3] 61 [(3, .int (iI r0)), (2, .int (iI nu0)), (0, .ref y), (1, .int (iI i))] [.int (iI (ph (cX X n r0)))]
              refine g_istore (lv' := [(4, .int (iI (ph (cX X n r0)))), (3, .int (iI r0)), (2, .int (iI nu0)), (0, .ref y), (1, .int (iI i))]) XX d_MO_moved_61 (by decide) rfl ?_
              have hm := mok_S (col := cX X n) (n := n + 1) (fun j a b => cX_sy hbX a (by omega)) r0 (by omega) (by omega)
              have hs := cX_sy (X := X) (n := n) (r := r0) hbX (by omega) (by omega)
              have mp := mpos_spec hm hs
              refine g_iconst XX d_MO_moved_63 ?_
              refine g_istore_n (lv' := [(2, .int (iI 0)), (4, .int (iI (ph (cX X n r0)))), (3, .int (iI r0)), (0, .ref y), (1, .int (iI i))]) XX d_MO_moved_64 rfl (by decide) rfl ?_
              have L65 : ∀ (k_65 : Nat) (q0 : Int), (0 ≤ q0 ∧ q0 ≤ mpos (mS (cX X n) r0) (cX X n r0)) → (257 - q0).toNat = k_65 → xG P0 l E0 rm_M_moved S0 M0 A0 B0 T0 C0 QQ 6 D vwCl AA 0 0 [cR b5 cA 257 f53, cO y 5 [.int (iI t), .ref b1, .int (iI n), .ref b2, .ref b3, .int (iI m), .ref b4, .ref b5, .ref b6, .ref b7], cR b2 cA 96 f2, cR b3 cA 97 f3] 65 [(2, .int (iI q0)), (4, .int (iI (ph (cX X n r0)))), (3, .int (iI r0)), (0, .ref y), (1, .int (iI i))] [] := by
                refine x_ind (fun k_65 ih_65 q0 g1 hk_65 => ?_)
                refine g_aload_n XX d_MO_moved_65 rfl 3 rfl ?_
                refine g_get (C := R_MO) (T := T_MO) (N := 10) XX (tmw win0_MO) 1 rfl rfl 7 (by decide) (tm kw_114) rfl rfl d_MO_moved_66 ?_
                refine g_iload_n XX d_MO_moved_69 rfl 0 rfl ?_
                refine g_iald XX 0 0 rfl rfl ⟨by omega, by omega, by decide⟩ d_MO_moved_70 ?_
                refine g_iload XX d_MO_moved_71 1 rfl ?_
                have e1 : f53 q0 = ph (mS (cX X n) r0 q0) := k2 q0 (by omega) (by omega)
                have s1 := hm.1 q0 (by omega) (by omega)
                have p1 := ph_rng s1
                have p2 := ph_rng hs
                have p3 := ph_inj s1 hs
                refine g_icmp_eq (tgt := 82) XX d_MO_moved_73 (by decide) ⟨by omega, by omega⟩ ⟨by omega, by omega⟩ (fun h73 => ?_) (fun h73 => ?_)
                · -- 73: yes
                  have hq : q0 = mpos (mS (cX X n) r0) (cX X n r0) := Classical.byContradiction fun z => mp.2.2.2 q0 (by omega) (by omega) (p3.mp (e1.symm.trans h73))
                  refine g_iload_n XX d_MO_moved_82 rfl 0 rfl ?_
                  refine g_istore (lv' := [(5, .int (iI q0)), (2, .int (iI q0)), (4, .int (iI (ph (cX X n r0)))), (3, .int (iI r0)), (0, .ref y), (1, .int (iI i))]) XX d_MO_moved_83 (by decide) rfl ?_
                  have L85 : ∀ (k_85 : Nat) (c5 : Int) (f54 : Int → Int), (0 ≤ c5 ∧ c5 ≤ q0) → (∀ j, 0 ≤ j → j ≤ c5 → f54 j = f53 j) → (∀ j, c5 < j → j ≤ q0 → f54 j = f53 (j - 1)) → (∀ j, q0 < j → j < 257 → f54 j = f53 j) → (c5).toNat = k_85 → xG P0 l E0 rm_M_moved S0 M0 A0 B0 T0 C0 QQ 6 D vwCl AA 0 0 [cR b5 cA 257 f54, cO y 5 [.int (iI t), .ref b1, .int (iI n), .ref b2, .ref b3, .int (iI m), .ref b4, .ref b5, .ref b6, .ref b7], cR b2 cA 96 f2, cR b3 cA 97 f3] 85 [(5, .int (iI c5)), (2, .int (iI q0)), (4, .int (iI (ph (cX X n r0)))), (3, .int (iI r0)), (0, .ref y), (1, .int (iI i))] [] := by
                    refine x_ind (fun k_85 ih_85 c5 f54 d1 d2 d3 d4 hk_85 => ?_)
                    refine g_iload XX d_MO_moved_85 0 rfl ?_
                    refine g_if_le (tgt := 112) XX d_MO_moved_87 (by decide) ⟨by omega, by omega⟩ (fun h87 => ?_) (fun h87 => ?_)
                    · -- 87: yes
                      refine g_aload_n XX d_MO_moved_112 rfl 4 rfl ?_
                      refine g_get (C := R_MO) (T := T_MO) (N := 10) XX (tmw win0_MO) 1 rfl rfl 7 (by decide) (tm kw_114) rfl rfl d_MO_moved_113 ?_
                      refine g_iconst XX d_MO_moved_116 ?_
                      refine g_iload XX d_MO_moved_117 2 rfl ?_
                      refine g_iast (ws' := [cR b5 cA 257 (iup f54 0 (ph (cX X n r0))), cO y 5 [.int (iI t), .ref b1, .int (iI n), .ref b2, .ref b3, .int (iI m), .ref b4, .ref b5, .ref b6, .ref b7], cR b2 cA 96 f2, cR b3 cA 97 f3]) XX 0 0 rfl rfl ⟨by omega, by omega, by decide⟩ rfl d_MO_moved_119 ?_
                      refine g_iinc (lv' := [(3, .int (iI (r0 + 1))), (5, .int (iI c5)), (2, .int (iI q0)), (4, .int (iI (ph (cX X n r0)))), (0, .ref y), (1, .int (iI i))]) XX d_MO_moved_120 3 rfl (by decide) rfl ?_
                      refine g_goto (tgt := 51) XX d_MO_moved_123 (by decide) ?_
                      refine g_lv (lv' := [(3, .int (iI (r0 + 1))), (2, .int (iI q0)), (0, .ref y), (1, .int (iI i))]) [0, 2, 4, 5] rfl ?_
                      refine g_ws (ws' := [cO y 5 [.int (iI t), .ref b1, .int (iI n), .ref b2, .ref b3, .int (iI m), .ref b4, .ref b5, .ref b6, .ref b7], cR b2 cA 96 f2, cR b3 cA 97 f3, cR b5 cA 257 (iup f54 0 (ph (cX X n r0)))]) [1, 2, 3, 0] (by decide) rfl ?_
                      exact ih_51 _ (by omega) q0 (r0 + 1) (iup f54 0 (ph (cX X n r0))) (by omega) (by rw [mS_s (by omega)]; exact mshift k2 (fun j a b => d3 j (by omega) b) d4 hq.symm (by omega)) (Or.inr (by rw [show r0 + 1 - 1 = r0 by omega]; exact hq)) rfl
                    · -- 87: no
                      refine g_aload_n XX d_MO_moved_90 rfl 4 rfl ?_
                      refine g_get (C := R_MO) (T := T_MO) (N := 10) XX (tmw win0_MO) 1 rfl rfl 7 (by decide) (tm kw_114) rfl rfl d_MO_moved_91 ?_
                      refine g_iload XX d_MO_moved_94 0 rfl ?_
                      refine g_aload_n XX d_MO_moved_96 rfl 4 rfl ?_
                      refine g_get (C := R_MO) (T := T_MO) (N := 10) XX (tmw win0_MO) 1 rfl rfl 7 (by decide) (tm kw_114) rfl rfl d_MO_moved_97 ?_
                      refine g_iload XX d_MO_moved_100 0 rfl ?_
                      refine g_iconst XX d_MO_moved_102 ?_
                      refine g_isub XX d_MO_moved_103 ?_
                      refine g_iald XX 0 0 rfl rfl ⟨by omega, by omega, by decide⟩ d_MO_moved_104 ?_
                      refine g_iast (ws' := [cR b5 cA 257 (iup f54 c5 (f54 (c5 - 1))), cO y 5 [.int (iI t), .ref b1, .int (iI n), .ref b2, .ref b3, .int (iI m), .ref b4, .ref b5, .ref b6, .ref b7], cR b2 cA 96 f2, cR b3 cA 97 f3]) XX 0 0 rfl rfl ⟨by omega, by omega, by decide⟩ rfl d_MO_moved_105 ?_
                      refine g_iinc (lv' := [(5, .int (iI (c5 + (-1)))), (2, .int (iI q0)), (4, .int (iI (ph (cX X n r0)))), (3, .int (iI r0)), (0, .ref y), (1, .int (iI i))]) XX d_MO_moved_106 0 rfl (by decide) rfl ?_
                      refine g_goto (tgt := 85) XX d_MO_moved_109 (by decide) ?_
                      exact ih_85 _ (by omega) (c5 + (-1)) (iup f54 c5 (f54 (c5 - 1))) (by omega) (fun j a b => by rw [iup_ne (by omega)]; exact d2 j a (by omega)) (fun j a b => if z : j = c5 then by rw [iup_eq z, z]; exact d2 (c5 - 1) (by omega) (by omega) else by rw [iup_ne z]; exact d3 j (by omega) b) (fun j a b => by rw [iup_ne (by omega)]; exact d4 j a b) rfl
                  exact L85 _ q0 f53 (by omega) (fun j a b => rfl) (fun j a b => by omega) (fun j a b => rfl) rfl
                · -- 73: no
                  refine g_iinc (lv' := [(2, .int (iI (q0 + 1))), (4, .int (iI (ph (cX X n r0)))), (3, .int (iI r0)), (0, .ref y), (1, .int (iI i))]) XX d_MO_moved_76 0 rfl (by decide) rfl ?_
                  refine g_goto (tgt := 65) XX d_MO_moved_79 (by decide) ?_
                  exact ih_65 _ (by omega) (q0 + 1) (by have y : q0 ≠ mpos (mS (cX X n) r0) (cX X n r0) := fun z => h73 (by rw [e1, z, mp.2.2.1]); omega) rfl
              exact L65 _ 0 (by omega) rfl
          exact L51 _ 0 0 f52 (by omega) (ag_le h2 (by omega)) (Or.inl rfl) rfl
        · -- 29: no
          refine g_aload_n XX d_MO_moved_32 rfl 1 rfl ?_
          refine g_get (C := R_MO) (T := T_MO) (N := 10) XX (tmw win0_MO) 0 rfl rfl 7 (by decide) (tm kw_114) rfl rfl d_MO_moved_33 ?_
          refine g_iload_n XX d_MO_moved_36 rfl 0 rfl ?_
          refine g_iconst XX d_MO_moved_37 ?_
          refine g_iadd XX d_MO_moved_38 ?_
          refine g_iload_n XX d_MO_moved_39 rfl 0 rfl ?_
          refine g_iast (ws' := [cO y 5 [.int (iI t), .ref b1, .int (iI n), .ref b2, .ref b3, .int (iI m), .ref b4, .ref b5, .ref b6, .ref b7], cR b2 cA 96 f2, cR b3 cA 97 f3, cR b5 cA 257 (iup f52 (b0 + 1) b0)]) XX 3 0 rfl rfl ⟨by omega, by omega, by decide⟩ rfl d_MO_moved_40 ?_
          refine g_iinc (lv' := [(2, .int (iI (b0 + 1))), (0, .ref y), (1, .int (iI i))]) XX d_MO_moved_41 0 rfl (by decide) rfl ?_
          refine g_goto (tgt := 25) XX d_MO_moved_44 (by decide) ?_
          exact ih_25 _ (by omega) (b0 + 1) (iup f52 (b0 + 1) b0) (by omega) (ag_s h2 (by show b0 = ph (mL0 (b0 + 1)); simp only [mL0, ph, if_neg (show ¬ b0 + 1 = 0 by omega)]; rw [if_neg (by omega)]; omega)) rfl
      exact L25 _ 0 (iup f5 0 256) (by omega) (ag_s (ag_0 (by omega)) (by decide)) rfl
    · -- 9: no
      have hz : ¬ (0 ≤ i ∧ i ≤ n) := by omega
      refine g_iconst XX d_MO_moved_12 ?_
      exact ret _ _ _ _ [cO y 5 [.int (iI t), .ref b1, .int (iI n), .ref b2, .ref b3, .int (iI m), .ref b4, .ref b5, .ref b6, .ref b7], cR b2 cA 96 f2, cR b3 cA 97 f3, cR b5 cA 257 f5] [0, 1, 2, 3] d_MO_moved_13 (by decide) rfl (⟨f5, by rw [if_neg hz], rfl, trivial⟩)
abbrev rm_M_distinct : Room := { frames := 1, cells := 0, slots := 0, locals := 23 }
set_option maxHeartbeats 4000000 in
set_option maxRecDepth 100000 in
theorem c_M_distinct (l : Launch) (D : va_G) (cA : ClassId) (y b1 b2 b3 b4 b5 b6 b7 : Nat) (f2 f3 X : Int → Int) (t n m : Int) (hn : 0 ≤ n ∧ n ≤ 96) (hfX : ag f2 X n) (hbX : bt8 X n) (hfO : ag f3 (og X n) (n + 1)) : xM l y_MO_distinct w_MO_distinct rm_M_distinct D vwCl [(cA, .int)] [.ref y] [cO y 5 [.int (iI t), .ref b1, .int (iI n), .ref b2, .ref b3, .int (iI m), .ref b4, .ref b5, .ref b6, .ref b7], cR b2 cA 96 f2, cR b3 cA 97 f3] (fun r w => r = iI (sm (fun r => n - og X n (r + 1) - cm X n r) n) ∧ w = [cO y 5 [.int (iI t), .ref b1, .int (iI n), .ref b2, .ref b3, .int (iI m), .ref b4, .ref b5, .ref b6, .ref b7], cR b2 cA 96 f2, cR b3 cA 97 f3]) 0 0 := by
  refine xM.ofI (by decide) rfl (Nat.le_of_ble_eq_true rfl) ?_
  intro P0 E0 S0 M0 A0 B0 T0 C0 AA QQ XX hnm ret
  refine g_iconst XX d_MO_distinct_0 ?_
  refine g_istore_n (lv' := [(1, .int (iI 0)), (0, .ref y)]) XX d_MO_distinct_1 rfl (by decide) rfl ?_
  refine g_iconst XX d_MO_distinct_2 ?_
  refine g_istore_n (lv' := [(2, .int (iI 0)), (1, .int (iI 0)), (0, .ref y)]) XX d_MO_distinct_3 rfl (by decide) rfl ?_
  have L4 : ∀ (k_4 : Nat) (c0 : Int) (r0 : Int), (0 ≤ r0 ∧ r0 ≤ n + 1) → (c0 = sm (fun r => n - og X n r - (if 0 < r then al X n X n (og X n (r - 1)) (og X n r) else 0)) r0) → (n + 1 - r0).toNat = k_4 → xG P0 l E0 rm_M_distinct S0 M0 A0 B0 T0 C0 QQ 3 D vwCl AA 0 0 [cO y 5 [.int (iI t), .ref b1, .int (iI n), .ref b2, .ref b3, .int (iI m), .ref b4, .ref b5, .ref b6, .ref b7], cR b2 cA 96 f2, cR b3 cA 97 f3] 4 [(2, .int (iI r0)), (1, .int (iI c0)), (0, .ref y)] [] := by
    refine x_ind (fun k_4 ih_4 c0 r0 h1 h2 hk_4 => ?_)
    refine g_iload_n XX d_MO_distinct_4 rfl 0 rfl ?_
    refine g_aload_n XX d_MO_distinct_5 rfl 2 rfl ?_
    refine g_get (C := R_MO) (T := T_MO) (N := 10) XX (tmw win0_MO) 0 rfl rfl 2 (by decide) (tm kw_119) rfl rfl d_MO_distinct_6 ?_
    refine g_icmp_gt (tgt := 59) XX d_MO_distinct_9 (by decide) ⟨by omega, by omega⟩ ⟨by omega, by omega⟩ (fun h9 => ?_) (fun h9 => ?_)
    · -- 9: yes
      refine g_iload_n XX d_MO_distinct_59 rfl 1 rfl ?_
      exact ret _ _ _ _ [cO y 5 [.int (iI t), .ref b1, .int (iI n), .ref b2, .ref b3, .int (iI m), .ref b4, .ref b5, .ref b6, .ref b7], cR b2 cA 96 f2, cR b3 cA 97 f3] [0, 1, 2] d_MO_distinct_60 (by decide) rfl (⟨by rw [h2, show r0 = n + 1 by omega, dst_eq (by omega)], rfl⟩)
    · -- 9: no
      refine g_iload_n XX d_MO_distinct_12 rfl 1 rfl ?_
      refine g_aload_n XX d_MO_distinct_13 rfl 2 rfl ?_
      refine g_get (C := R_MO) (T := T_MO) (N := 10) XX (tmw win0_MO) 0 rfl rfl 2 (by decide) (tm kw_119) rfl rfl d_MO_distinct_14 ?_
      refine g_aload_n XX d_MO_distinct_17 rfl 2 rfl ?_
      refine g_get (C := R_MO) (T := T_MO) (N := 10) XX (tmw win0_MO) 0 rfl rfl 4 (by decide) (tm kw_112) rfl rfl d_MO_distinct_18 ?_
      refine g_iload_n XX d_MO_distinct_21 rfl 0 rfl ?_
      have e1 := hfO r0 (by omega) (by omega)
      have g1 := og_rng (X := X) (n := n) (r := r0) (by omega) (by omega)
      refine g_iald XX 2 0 rfl rfl ⟨by omega, by omega, by decide⟩ d_MO_distinct_22 ?_
      refine g_isub XX d_MO_distinct_23 ?_
      refine g_iload_n XX d_MO_distinct_24 rfl 0 rfl ?_
      refine g_if_le (tgt := 49) XX d_MO_distinct_25 (by decide) ⟨by omega, by omega⟩ (fun h25 => ?_) (fun h25 => ?_)
      · -- 25: yes
        refine g_iconst XX d_MO_distinct_49 ?_
        refine g_isub XX d_MO_distinct_50 ?_
        refine g_iadd XX d_MO_distinct_51 ?_
        refine g_istore_n (lv' := [(1, .int (iI (c0 + ((n - (f3 r0)) - 0)))), (2, .int (iI r0)), (0, .ref y)]) XX d_MO_distinct_52 rfl (by decide) rfl ?_
        refine g_iinc (lv' := [(2, .int (iI (r0 + 1))), (1, .int (iI (c0 + ((n - (f3 r0)) - 0)))), (0, .ref y)]) XX d_MO_distinct_53 1 rfl (by decide) rfl ?_
        refine g_goto (tgt := 4) XX d_MO_distinct_56 (by decide) ?_
        exact ih_4 _ (by omega) (c0 + ((n - (f3 r0)) - 0)) (r0 + 1) (by omega) (by rw [sm_s (by omega), ← h2]; first | (show _ = c0 + (n - og X n r0 - (if 0 < r0 then al X n X n (og X n (r0 - 1)) (og X n r0) else 0)); rw [if_neg (by omega), e1]; done) | (show _ = c0 + (n - og X n r0 - (if 0 < r0 then al X n X n (og X n (r0 - 1)) (og X n r0) else 0)); rw [if_pos (by omega), e0, e1]; done)) rfl
      · -- 25: no
        refine g_aload_n XX d_MO_distinct_28 rfl 2 rfl ?_
        refine g_aload_n XX d_MO_distinct_29 rfl 2 rfl ?_
        refine g_get (C := R_MO) (T := T_MO) (N := 10) XX (tmw win0_MO) 0 rfl rfl 4 (by decide) (tm kw_112) rfl rfl d_MO_distinct_30 ?_
        refine g_iload_n XX d_MO_distinct_33 rfl 0 rfl ?_
        refine g_iconst XX d_MO_distinct_34 ?_
        refine g_isub XX d_MO_distinct_35 ?_
        refine g_iald XX 2 0 rfl rfl ⟨by omega, by omega, by decide⟩ d_MO_distinct_36 ?_
        refine g_aload_n XX d_MO_distinct_37 rfl 2 rfl ?_
        refine g_get (C := R_MO) (T := T_MO) (N := 10) XX (tmw win0_MO) 0 rfl rfl 4 (by decide) (tm kw_112) rfl rfl d_MO_distinct_38 ?_
        refine g_iload_n XX d_MO_distinct_41 rfl 0 rfl ?_
        refine g_iald XX 2 0 rfl rfl ⟨by omega, by omega, by decide⟩ d_MO_distinct_42 ?_
        have e0 := hfO (r0 - 1) (by omega) (by omega)
        have g0 := og_rng (X := X) (n := n) (r := r0 - 1) (by omega) (by omega)
        refine g_calli (As := [.int (iI (f3 (r0 - 1))), .int (iI (f3 r0))]) (st := [.int (iI (n - (f3 r0))), .int (iI c0)]) (wr := [cR b3 cA 97 f3]) XX (c_M_alike l D cA y b1 b2 b3 b4 b5 b6 b7 f2 X t n m (f3 (r0 - 1)) (f3 r0) (by first | assumption | omega) (by first | assumption | omega) (by first | assumption | omega) (by first | assumption | omega)) (x_cw 2 XX.2.2.2.2.1 (gi kw_120) rfl rfl (tm kw_123) (tm kw_121) (tm kw_122) (tm kw_124) ⟨by decide +kernel, by decide +kernel, by decide +kernel⟩ ⟨by decide, by decide⟩) [0, 1] [2] rfl rfl (by decide) (by decide) (by decide) 0 5 rfl rfl rfl rfl (Nat.le_of_ble_eq_true rfl) d_MO_distinct_43 ⟨by decide, by decide⟩ (fun r_ w_ hq => ?_)
        obtain ⟨rfl, rfl⟩ := hq
        show xG P0 l E0 rm_M_distinct S0 M0 A0 B0 T0 C0 QQ 3 D vwCl AA 0 0 [cR b3 cA 97 f3, cO y 5 [.int (iI t), .ref b1, .int (iI n), .ref b2, .ref b3, .int (iI m), .ref b4, .ref b5, .ref b6, .ref b7], cR b2 cA 96 f2] 46 [(2, .int (iI r0)), (1, .int (iI c0)), (0, .ref y)] [.int (iI (al X n X n (f3 (r0 - 1)) (f3 r0))), .int (iI (n - (f3 r0))), .int (iI c0)]
        refine g_goto (tgt := 50) XX d_MO_distinct_46 (by decide) ?_
        refine g_isub XX d_MO_distinct_50 ?_
        refine g_iadd XX d_MO_distinct_51 ?_
        refine g_istore_n (lv' := [(1, .int (iI (c0 + ((n - (f3 r0)) - (al X n X n (f3 (r0 - 1)) (f3 r0)))))), (2, .int (iI r0)), (0, .ref y)]) XX d_MO_distinct_52 rfl (by decide) rfl ?_
        refine g_iinc (lv' := [(2, .int (iI (r0 + 1))), (1, .int (iI (c0 + ((n - (f3 r0)) - (al X n X n (f3 (r0 - 1)) (f3 r0)))))), (0, .ref y)]) XX d_MO_distinct_53 1 rfl (by decide) rfl ?_
        refine g_goto (tgt := 4) XX d_MO_distinct_56 (by decide) ?_
        refine g_ws (ws' := [cO y 5 [.int (iI t), .ref b1, .int (iI n), .ref b2, .ref b3, .int (iI m), .ref b4, .ref b5, .ref b6, .ref b7], cR b2 cA 96 f2, cR b3 cA 97 f3]) [1, 2, 0] (by decide) rfl ?_
        exact ih_4 _ (by omega) (c0 + ((n - (f3 r0)) - (al X n X n (f3 (r0 - 1)) (f3 r0)))) (r0 + 1) (by omega) (by rw [sm_s (by omega), ← h2]; first | (show _ = c0 + (n - og X n r0 - (if 0 < r0 then al X n X n (og X n (r0 - 1)) (og X n r0) else 0)); rw [if_neg (by omega), e1]; done) | (show _ = c0 + (n - og X n r0 - (if 0 < r0 then al X n X n (og X n (r0 - 1)) (og X n r0) else 0)); rw [if_pos (by omega), e0, e1]; done)) rfl
  exact L4 _ 0 0 (by omega) (rfl) rfl
abbrev rm_M_repeat : Room := { frames := 1, cells := 0, slots := 0, locals := 23 }
set_option maxHeartbeats 4000000 in
set_option maxRecDepth 100000 in
theorem c_M_repeat (l : Launch) (D : va_G) (cA : ClassId) (y b1 b2 b3 b4 b5 b6 b7 : Nat) (f2 f3 X : Int → Int) (t n m : Int) (hn : 0 ≤ n ∧ n ≤ 96) (hfX : ag f2 X n) (hbX : bt8 X n) (hfO : ag f3 (og X n) (n + 1)) : xM l y_MO_repeat w_MO_repeat rm_M_repeat D vwCl [(cA, .int)] [.ref y] [cO y 5 [.int (iI t), .ref b1, .int (iI n), .ref b2, .ref b3, .int (iI m), .ref b4, .ref b5, .ref b6, .ref b7], cR b2 cA 96 f2, cR b3 cA 97 f3] (fun r w => r = iI (rpt X n) ∧ w = [cO y 5 [.int (iI t), .ref b1, .int (iI n), .ref b2, .ref b3, .int (iI m), .ref b4, .ref b5, .ref b6, .ref b7], cR b2 cA 96 f2, cR b3 cA 97 f3]) 0 0 := by
  refine xM.ofI (by decide) rfl (Nat.le_of_ble_eq_true rfl) ?_
  intro P0 E0 S0 M0 A0 B0 T0 C0 AA QQ XX hnm ret
  refine g_iconst XX d_MO_repeat_0 ?_
  refine g_istore_n (lv' := [(1, .int (iI 0)), (0, .ref y)]) XX d_MO_repeat_1 rfl (by decide) rfl ?_
  refine g_iconst XX d_MO_repeat_2 ?_
  refine g_istore_n (lv' := [(2, .int (iI 0)), (1, .int (iI 0)), (0, .ref y)]) XX d_MO_repeat_3 rfl (by decide) rfl ?_
  refine g_iconst XX d_MO_repeat_4 ?_
  refine g_istore_n (lv' := [(3, .int (iI 0)), (2, .int (iI 0)), (1, .int (iI 0)), (0, .ref y)]) XX d_MO_repeat_5 rfl (by decide) rfl ?_
  have L6 : ∀ (k_6 : Nat) (b0 : Int) (l0 : Int) (r0 : Int), (0 ≤ r0 ∧ r0 ≤ n) → ((b0, l0) = rb (cm X n) (fun r => min (og X n r) (og X n (r + 1))) r0) → (n - r0).toNat = k_6 → xG P0 l E0 rm_M_repeat S0 M0 A0 B0 T0 C0 QQ 6 D vwCl AA 0 0 [cO y 5 [.int (iI t), .ref b1, .int (iI n), .ref b2, .ref b3, .int (iI m), .ref b4, .ref b5, .ref b6, .ref b7], cR b2 cA 96 f2, cR b3 cA 97 f3] 6 [(3, .int (iI r0)), (2, .int (iI l0)), (1, .int (iI b0)), (0, .ref y)] [] := by
    refine x_ind (fun k_6 ih_6 b0 l0 r0 h1 h2 hk_6 => ?_)
    have rr := rpt_rng hn h1.1 h1.2 h2
    refine g_iload_n XX d_MO_repeat_6 rfl 0 rfl ?_
    refine g_aload_n XX d_MO_repeat_7 rfl 3 rfl ?_
    refine g_get (C := R_MO) (T := T_MO) (N := 10) XX (tmw win0_MO) 0 rfl rfl 2 (by decide) (tm kw_119) rfl rfl d_MO_repeat_8 ?_
    refine g_icmp_ge (tgt := 100) XX d_MO_repeat_11 (by decide) ⟨by omega, by omega⟩ ⟨by omega, by omega⟩ (fun h11 => ?_) (fun h11 => ?_)
    · -- 11: yes
      have hb : rb (cm X n) (fun r => min (og X n r) (og X n (r + 1))) n = (b0, l0) := by rw [h2, show r0 = n by omega]
      refine g_iload_n XX d_MO_repeat_100 rfl 2 rfl ?_
      refine g_if_ne (tgt := 108) XX d_MO_repeat_101 (by decide) ⟨by omega, by omega⟩ (fun h101 => ?_) (fun h101 => ?_)
      · -- 101: yes
        refine g_sipush (v := 128) XX d_MO_repeat_108 (by decide) ?_
        refine g_iload_n XX d_MO_repeat_111 rfl 2 rfl ?_
        refine g_imul XX d_MO_repeat_112 ?_
        refine g_iload_n XX d_MO_repeat_113 rfl 1 rfl ?_
        refine g_iadd XX d_MO_repeat_114 ?_
        exact ret _ _ _ _ [cO y 5 [.int (iI t), .ref b1, .int (iI n), .ref b2, .ref b3, .int (iI m), .ref b4, .ref b5, .ref b6, .ref b7], cR b2 cA 96 f2, cR b3 cA 97 f3] [0, 1, 2] d_MO_repeat_115 (by decide) rfl (⟨by first | rw [rpt_0 hb h101] | rw [rpt_1 hb h101], rfl⟩)
      · -- 101: no
        refine g_iconst XX d_MO_repeat_104 ?_
        refine g_goto (tgt := 115) XX d_MO_repeat_105 (by decide) ?_
        exact ret _ _ _ _ [cO y 5 [.int (iI t), .ref b1, .int (iI n), .ref b2, .ref b3, .int (iI m), .ref b4, .ref b5, .ref b6, .ref b7], cR b2 cA 96 f2, cR b3 cA 97 f3] [0, 1, 2] d_MO_repeat_115 (by decide) rfl (⟨by first | rw [rpt_0 hb h101] | rw [rpt_1 hb h101], rfl⟩)
    · -- 11: no
      have e2 := hfO r0 (by omega) (by omega)
      have e3 := hfO (r0 + 1) (by omega) (by omega)
      have g1 := cm_rng (X := X) (n := n) (r := r0) (by omega) (by omega)
      have g2 := og_rng (X := X) (n := n) (r := r0) (by omega) (by omega)
      have g3 := og_rng (X := X) (n := n) (r := r0 + 1) (by omega) (by omega)
      have ec : al X n X n (f3 r0) (f3 (r0 + 1)) = cm X n r0 := by rw [e2, e3]; rfl
      refine g_aload_n XX d_MO_repeat_14 rfl 3 rfl ?_
      refine g_aload_n XX d_MO_repeat_15 rfl 3 rfl ?_
      refine g_get (C := R_MO) (T := T_MO) (N := 10) XX (tmw win0_MO) 0 rfl rfl 4 (by decide) (tm kw_112) rfl rfl d_MO_repeat_16 ?_
      refine g_iload_n XX d_MO_repeat_19 rfl 0 rfl ?_
      refine g_iald XX 2 0 rfl rfl ⟨by omega, by omega, by decide⟩ d_MO_repeat_20 ?_
      refine g_aload_n XX d_MO_repeat_21 rfl 3 rfl ?_
      refine g_get (C := R_MO) (T := T_MO) (N := 10) XX (tmw win0_MO) 0 rfl rfl 4 (by decide) (tm kw_112) rfl rfl d_MO_repeat_22 ?_
      refine g_iload_n XX d_MO_repeat_25 rfl 0 rfl ?_
      refine g_iconst XX d_MO_repeat_26 ?_
      refine g_iadd XX d_MO_repeat_27 ?_
      refine g_iald XX 2 0 rfl rfl ⟨by omega, by omega, by decide⟩ d_MO_repeat_28 ?_
      refine g_calli (As := [.int (iI (f3 r0)), .int (iI (f3 (r0 + 1)))]) (st := []) (wr := [cR b3 cA 97 f3]) XX (c_M_alike l D cA y b1 b2 b3 b4 b5 b6 b7 f2 X t n m (f3 r0) (f3 (r0 + 1)) (by first | assumption | omega) (by first | assumption | omega) (by first | assumption | omega) (by first | assumption | omega)) (x_cw 2 XX.2.2.2.2.1 (gi kw_120) rfl rfl (tm kw_123) (tm kw_121) (tm kw_122) (tm kw_124) ⟨by decide +kernel, by decide +kernel, by decide +kernel⟩ ⟨by decide, by decide⟩) [0, 1] [2] rfl rfl (by decide) (by decide) (by decide) 0 5 rfl rfl rfl rfl (Nat.le_of_ble_eq_true rfl) d_MO_repeat_29 ⟨by decide, by decide⟩ (fun r_ w_ hq => ?_)
      obtain ⟨rfl, rfl⟩ := hq
      show xG P0 l E0 rm_M_repeat S0 M0 A0 B0 T0 C0 QQ 6 D vwCl AA 0 0 [cR b3 cA 97 f3, cO y 5 [.int (iI t), .ref b1, .int (iI n), .ref b2, .ref b3, .int (iI m), .ref b4, .ref b5, .ref b6, .ref b7], cR b2 cA 96 f2] 32 [(3, .int (iI r0)), (2, .int (iI l0)), (1, .int (iI b0)), (0, .ref y)] [.int (iI (al X n X n (f3 r0) (f3 (r0 + 1))))]
      refine g_istore (lv' := [(4, .int (iI (al X n X n (f3 r0) (f3 (r0 + 1))))), (3, .int (iI r0)), (2, .int (iI l0)), (1, .int (iI b0)), (0, .ref y)]) XX d_MO_repeat_32 (by decide) rfl ?_
      refine g_aload_n XX d_MO_repeat_34 rfl 4 rfl ?_
      refine g_get (C := R_MO) (T := T_MO) (N := 10) XX (tmw win0_MO) 1 rfl rfl 4 (by decide) (tm kw_112) rfl rfl d_MO_repeat_35 ?_
      refine g_iload_n XX d_MO_repeat_38 rfl 1 rfl ?_
      refine g_iald XX 0 0 rfl rfl ⟨by omega, by omega, by decide⟩ d_MO_repeat_39 ?_
      refine g_aload_n XX d_MO_repeat_40 rfl 4 rfl ?_
      refine g_get (C := R_MO) (T := T_MO) (N := 10) XX (tmw win0_MO) 1 rfl rfl 4 (by decide) (tm kw_112) rfl rfl d_MO_repeat_41 ?_
      refine g_iload_n XX d_MO_repeat_44 rfl 1 rfl ?_
      refine g_iconst XX d_MO_repeat_45 ?_
      refine g_iadd XX d_MO_repeat_46 ?_
      refine g_iald XX 0 0 rfl rfl ⟨by omega, by omega, by decide⟩ d_MO_repeat_47 ?_
      refine g_icmp_ge (tgt := 60) XX d_MO_repeat_48 (by decide) ⟨by omega, by omega⟩ ⟨by omega, by omega⟩ (fun h48 => ?_) (fun h48 => ?_)
      · -- 48: yes
        refine g_aload_n XX d_MO_repeat_60 rfl 4 rfl ?_
        refine g_get (C := R_MO) (T := T_MO) (N := 10) XX (tmw win0_MO) 1 rfl rfl 4 (by decide) (tm kw_112) rfl rfl d_MO_repeat_61 ?_
        refine g_iload_n XX d_MO_repeat_64 rfl 1 rfl ?_
        refine g_iconst XX d_MO_repeat_65 ?_
        refine g_iadd XX d_MO_repeat_66 ?_
        refine g_iald XX 0 0 rfl rfl ⟨by omega, by omega, by decide⟩ d_MO_repeat_67 ?_
        refine g_istore (lv' := [(5, .int (iI (f3 (r0 + 1)))), (4, .int (iI (al X n X n (f3 r0) (f3 (r0 + 1))))), (3, .int (iI r0)), (2, .int (iI l0)), (1, .int (iI b0)), (0, .ref y)]) XX d_MO_repeat_68 (by decide) rfl ?_
        refine g_iload XX d_MO_repeat_70 1 rfl ?_
        refine g_iload_n XX d_MO_repeat_72 rfl 4 rfl ?_
        refine g_icmp_gt (tgt := 88) XX d_MO_repeat_73 (by decide) ⟨by omega, by omega⟩ ⟨by omega, by omega⟩ (fun h73 => ?_) (fun h73 => ?_)
        · -- 73: yes
          refine g_iload XX d_MO_repeat_88 1 rfl ?_
          refine g_istore_n (lv' := [(1, .int (iI (al X n X n (f3 r0) (f3 (r0 + 1))))), (5, .int (iI (f3 (r0 + 1)))), (4, .int (iI (al X n X n (f3 r0) (f3 (r0 + 1))))), (3, .int (iI r0)), (2, .int (iI l0)), (0, .ref y)]) XX d_MO_repeat_90 rfl (by decide) rfl ?_
          refine g_iload XX d_MO_repeat_91 1 rfl ?_
          refine g_istore_n (lv' := [(2, .int (iI (f3 (r0 + 1)))), (1, .int (iI (al X n X n (f3 r0) (f3 (r0 + 1))))), (5, .int (iI (f3 (r0 + 1)))), (4, .int (iI (al X n X n (f3 r0) (f3 (r0 + 1))))), (3, .int (iI r0)), (0, .ref y)]) XX d_MO_repeat_93 rfl (by decide) rfl ?_
          refine g_iinc (lv' := [(3, .int (iI (r0 + 1))), (2, .int (iI (f3 (r0 + 1)))), (1, .int (iI (al X n X n (f3 r0) (f3 (r0 + 1))))), (5, .int (iI (f3 (r0 + 1)))), (4, .int (iI (al X n X n (f3 r0) (f3 (r0 + 1))))), (0, .ref y)]) XX d_MO_repeat_94 4 rfl (by decide) rfl ?_
          refine g_goto (tgt := 6) XX d_MO_repeat_97 (by decide) ?_
          refine g_lv (lv' := [(3, .int (iI (r0 + 1))), (2, .int (iI (f3 (r0 + 1)))), (1, .int (iI (al X n X n (f3 r0) (f3 (r0 + 1))))), (0, .ref y)]) [0, 1, 2, 5] rfl ?_
          refine g_ws (ws' := [cO y 5 [.int (iI t), .ref b1, .int (iI n), .ref b2, .ref b3, .int (iI m), .ref b4, .ref b5, .ref b6, .ref b7], cR b2 cA 96 f2, cR b3 cA 97 f3]) [1, 2, 0] (by decide) rfl ?_
          exact ih_6 _ (by omega) (al X n X n (f3 r0) (f3 (r0 + 1))) (f3 (r0 + 1)) (r0 + 1) (by omega) (by first | exact rb_put (by omega) h2 ec (show f3 (r0 + 1) = min (og X n r0) (og X n (r0 + 1)) by omega) (by omega) | exact rb_put (by omega) h2 ec (show f3 r0 = min (og X n r0) (og X n (r0 + 1)) by omega) (by omega) | exact rb_keep (by omega) h2 ec (show f3 (r0 + 1) = min (og X n r0) (og X n (r0 + 1)) by omega) (by omega) | exact rb_keep (by omega) h2 ec (show f3 r0 = min (og X n r0) (og X n (r0 + 1)) by omega) (by omega)) rfl
        · -- 73: no
          refine g_iload XX d_MO_repeat_76 1 rfl ?_
          refine g_iload_n XX d_MO_repeat_78 rfl 4 rfl ?_
          refine g_icmp_ne (tgt := 94) XX d_MO_repeat_79 (by decide) ⟨by omega, by omega⟩ ⟨by omega, by omega⟩ (fun h79 => ?_) (fun h79 => ?_)
          · -- 79: yes
            refine g_iinc (lv' := [(3, .int (iI (r0 + 1))), (5, .int (iI (f3 (r0 + 1)))), (4, .int (iI (al X n X n (f3 r0) (f3 (r0 + 1))))), (2, .int (iI l0)), (1, .int (iI b0)), (0, .ref y)]) XX d_MO_repeat_94 2 rfl (by decide) rfl ?_
            refine g_goto (tgt := 6) XX d_MO_repeat_97 (by decide) ?_
            refine g_lv (lv' := [(3, .int (iI (r0 + 1))), (2, .int (iI l0)), (1, .int (iI b0)), (0, .ref y)]) [0, 3, 4, 5] rfl ?_
            refine g_ws (ws' := [cO y 5 [.int (iI t), .ref b1, .int (iI n), .ref b2, .ref b3, .int (iI m), .ref b4, .ref b5, .ref b6, .ref b7], cR b2 cA 96 f2, cR b3 cA 97 f3]) [1, 2, 0] (by decide) rfl ?_
            exact ih_6 _ (by omega) b0 l0 (r0 + 1) (by omega) (by first | exact rb_put (by omega) h2 ec (show f3 (r0 + 1) = min (og X n r0) (og X n (r0 + 1)) by omega) (by omega) | exact rb_put (by omega) h2 ec (show f3 r0 = min (og X n r0) (og X n (r0 + 1)) by omega) (by omega) | exact rb_keep (by omega) h2 ec (show f3 (r0 + 1) = min (og X n r0) (og X n (r0 + 1)) by omega) (by omega) | exact rb_keep (by omega) h2 ec (show f3 r0 = min (og X n r0) (og X n (r0 + 1)) by omega) (by omega)) rfl
          · -- 79: no
            refine g_iload XX d_MO_repeat_82 0 rfl ?_
            refine g_iload_n XX d_MO_repeat_84 rfl 3 rfl ?_
            refine g_icmp_ge (tgt := 94) XX d_MO_repeat_85 (by decide) ⟨by omega, by omega⟩ ⟨by omega, by omega⟩ (fun h85 => ?_) (fun h85 => ?_)
            · -- 85: yes
              refine g_iinc (lv' := [(3, .int (iI (r0 + 1))), (5, .int (iI (f3 (r0 + 1)))), (4, .int (iI (al X n X n (f3 r0) (f3 (r0 + 1))))), (2, .int (iI l0)), (1, .int (iI b0)), (0, .ref y)]) XX d_MO_repeat_94 2 rfl (by decide) rfl ?_
              refine g_goto (tgt := 6) XX d_MO_repeat_97 (by decide) ?_
              refine g_lv (lv' := [(3, .int (iI (r0 + 1))), (2, .int (iI l0)), (1, .int (iI b0)), (0, .ref y)]) [0, 3, 4, 5] rfl ?_
              refine g_ws (ws' := [cO y 5 [.int (iI t), .ref b1, .int (iI n), .ref b2, .ref b3, .int (iI m), .ref b4, .ref b5, .ref b6, .ref b7], cR b2 cA 96 f2, cR b3 cA 97 f3]) [1, 2, 0] (by decide) rfl ?_
              exact ih_6 _ (by omega) b0 l0 (r0 + 1) (by omega) (by first | exact rb_put (by omega) h2 ec (show f3 (r0 + 1) = min (og X n r0) (og X n (r0 + 1)) by omega) (by omega) | exact rb_put (by omega) h2 ec (show f3 r0 = min (og X n r0) (og X n (r0 + 1)) by omega) (by omega) | exact rb_keep (by omega) h2 ec (show f3 (r0 + 1) = min (og X n r0) (og X n (r0 + 1)) by omega) (by omega) | exact rb_keep (by omega) h2 ec (show f3 r0 = min (og X n r0) (og X n (r0 + 1)) by omega) (by omega)) rfl
            · -- 85: no
              refine g_iload XX d_MO_repeat_88 1 rfl ?_
              refine g_istore_n (lv' := [(1, .int (iI (al X n X n (f3 r0) (f3 (r0 + 1))))), (5, .int (iI (f3 (r0 + 1)))), (4, .int (iI (al X n X n (f3 r0) (f3 (r0 + 1))))), (3, .int (iI r0)), (2, .int (iI l0)), (0, .ref y)]) XX d_MO_repeat_90 rfl (by decide) rfl ?_
              refine g_iload XX d_MO_repeat_91 1 rfl ?_
              refine g_istore_n (lv' := [(2, .int (iI (f3 (r0 + 1)))), (1, .int (iI (al X n X n (f3 r0) (f3 (r0 + 1))))), (5, .int (iI (f3 (r0 + 1)))), (4, .int (iI (al X n X n (f3 r0) (f3 (r0 + 1))))), (3, .int (iI r0)), (0, .ref y)]) XX d_MO_repeat_93 rfl (by decide) rfl ?_
              refine g_iinc (lv' := [(3, .int (iI (r0 + 1))), (2, .int (iI (f3 (r0 + 1)))), (1, .int (iI (al X n X n (f3 r0) (f3 (r0 + 1))))), (5, .int (iI (f3 (r0 + 1)))), (4, .int (iI (al X n X n (f3 r0) (f3 (r0 + 1))))), (0, .ref y)]) XX d_MO_repeat_94 4 rfl (by decide) rfl ?_
              refine g_goto (tgt := 6) XX d_MO_repeat_97 (by decide) ?_
              refine g_lv (lv' := [(3, .int (iI (r0 + 1))), (2, .int (iI (f3 (r0 + 1)))), (1, .int (iI (al X n X n (f3 r0) (f3 (r0 + 1))))), (0, .ref y)]) [0, 1, 2, 5] rfl ?_
              refine g_ws (ws' := [cO y 5 [.int (iI t), .ref b1, .int (iI n), .ref b2, .ref b3, .int (iI m), .ref b4, .ref b5, .ref b6, .ref b7], cR b2 cA 96 f2, cR b3 cA 97 f3]) [1, 2, 0] (by decide) rfl ?_
              exact ih_6 _ (by omega) (al X n X n (f3 r0) (f3 (r0 + 1))) (f3 (r0 + 1)) (r0 + 1) (by omega) (by first | exact rb_put (by omega) h2 ec (show f3 (r0 + 1) = min (og X n r0) (og X n (r0 + 1)) by omega) (by omega) | exact rb_put (by omega) h2 ec (show f3 r0 = min (og X n r0) (og X n (r0 + 1)) by omega) (by omega) | exact rb_keep (by omega) h2 ec (show f3 (r0 + 1) = min (og X n r0) (og X n (r0 + 1)) by omega) (by omega) | exact rb_keep (by omega) h2 ec (show f3 r0 = min (og X n r0) (og X n (r0 + 1)) by omega) (by omega)) rfl
      · -- 48: no
        refine g_aload_n XX d_MO_repeat_51 rfl 4 rfl ?_
        refine g_get (C := R_MO) (T := T_MO) (N := 10) XX (tmw win0_MO) 1 rfl rfl 4 (by decide) (tm kw_112) rfl rfl d_MO_repeat_52 ?_
        refine g_iload_n XX d_MO_repeat_55 rfl 1 rfl ?_
        refine g_iald XX 0 0 rfl rfl ⟨by omega, by omega, by decide⟩ d_MO_repeat_56 ?_
        refine g_goto (tgt := 68) XX d_MO_repeat_57 (by decide) ?_
        refine g_istore (lv' := [(5, .int (iI (f3 r0))), (4, .int (iI (al X n X n (f3 r0) (f3 (r0 + 1))))), (3, .int (iI r0)), (2, .int (iI l0)), (1, .int (iI b0)), (0, .ref y)]) XX d_MO_repeat_68 (by decide) rfl ?_
        refine g_iload XX d_MO_repeat_70 1 rfl ?_
        refine g_iload_n XX d_MO_repeat_72 rfl 4 rfl ?_
        refine g_icmp_gt (tgt := 88) XX d_MO_repeat_73 (by decide) ⟨by omega, by omega⟩ ⟨by omega, by omega⟩ (fun h73 => ?_) (fun h73 => ?_)
        · -- 73: yes
          refine g_iload XX d_MO_repeat_88 1 rfl ?_
          refine g_istore_n (lv' := [(1, .int (iI (al X n X n (f3 r0) (f3 (r0 + 1))))), (5, .int (iI (f3 r0))), (4, .int (iI (al X n X n (f3 r0) (f3 (r0 + 1))))), (3, .int (iI r0)), (2, .int (iI l0)), (0, .ref y)]) XX d_MO_repeat_90 rfl (by decide) rfl ?_
          refine g_iload XX d_MO_repeat_91 1 rfl ?_
          refine g_istore_n (lv' := [(2, .int (iI (f3 r0))), (1, .int (iI (al X n X n (f3 r0) (f3 (r0 + 1))))), (5, .int (iI (f3 r0))), (4, .int (iI (al X n X n (f3 r0) (f3 (r0 + 1))))), (3, .int (iI r0)), (0, .ref y)]) XX d_MO_repeat_93 rfl (by decide) rfl ?_
          refine g_iinc (lv' := [(3, .int (iI (r0 + 1))), (2, .int (iI (f3 r0))), (1, .int (iI (al X n X n (f3 r0) (f3 (r0 + 1))))), (5, .int (iI (f3 r0))), (4, .int (iI (al X n X n (f3 r0) (f3 (r0 + 1))))), (0, .ref y)]) XX d_MO_repeat_94 4 rfl (by decide) rfl ?_
          refine g_goto (tgt := 6) XX d_MO_repeat_97 (by decide) ?_
          refine g_lv (lv' := [(3, .int (iI (r0 + 1))), (2, .int (iI (f3 r0))), (1, .int (iI (al X n X n (f3 r0) (f3 (r0 + 1))))), (0, .ref y)]) [0, 1, 2, 5] rfl ?_
          refine g_ws (ws' := [cO y 5 [.int (iI t), .ref b1, .int (iI n), .ref b2, .ref b3, .int (iI m), .ref b4, .ref b5, .ref b6, .ref b7], cR b2 cA 96 f2, cR b3 cA 97 f3]) [1, 2, 0] (by decide) rfl ?_
          exact ih_6 _ (by omega) (al X n X n (f3 r0) (f3 (r0 + 1))) (f3 r0) (r0 + 1) (by omega) (by first | exact rb_put (by omega) h2 ec (show f3 (r0 + 1) = min (og X n r0) (og X n (r0 + 1)) by omega) (by omega) | exact rb_put (by omega) h2 ec (show f3 r0 = min (og X n r0) (og X n (r0 + 1)) by omega) (by omega) | exact rb_keep (by omega) h2 ec (show f3 (r0 + 1) = min (og X n r0) (og X n (r0 + 1)) by omega) (by omega) | exact rb_keep (by omega) h2 ec (show f3 r0 = min (og X n r0) (og X n (r0 + 1)) by omega) (by omega)) rfl
        · -- 73: no
          refine g_iload XX d_MO_repeat_76 1 rfl ?_
          refine g_iload_n XX d_MO_repeat_78 rfl 4 rfl ?_
          refine g_icmp_ne (tgt := 94) XX d_MO_repeat_79 (by decide) ⟨by omega, by omega⟩ ⟨by omega, by omega⟩ (fun h79 => ?_) (fun h79 => ?_)
          · -- 79: yes
            refine g_iinc (lv' := [(3, .int (iI (r0 + 1))), (5, .int (iI (f3 r0))), (4, .int (iI (al X n X n (f3 r0) (f3 (r0 + 1))))), (2, .int (iI l0)), (1, .int (iI b0)), (0, .ref y)]) XX d_MO_repeat_94 2 rfl (by decide) rfl ?_
            refine g_goto (tgt := 6) XX d_MO_repeat_97 (by decide) ?_
            refine g_lv (lv' := [(3, .int (iI (r0 + 1))), (2, .int (iI l0)), (1, .int (iI b0)), (0, .ref y)]) [0, 3, 4, 5] rfl ?_
            refine g_ws (ws' := [cO y 5 [.int (iI t), .ref b1, .int (iI n), .ref b2, .ref b3, .int (iI m), .ref b4, .ref b5, .ref b6, .ref b7], cR b2 cA 96 f2, cR b3 cA 97 f3]) [1, 2, 0] (by decide) rfl ?_
            exact ih_6 _ (by omega) b0 l0 (r0 + 1) (by omega) (by first | exact rb_put (by omega) h2 ec (show f3 (r0 + 1) = min (og X n r0) (og X n (r0 + 1)) by omega) (by omega) | exact rb_put (by omega) h2 ec (show f3 r0 = min (og X n r0) (og X n (r0 + 1)) by omega) (by omega) | exact rb_keep (by omega) h2 ec (show f3 (r0 + 1) = min (og X n r0) (og X n (r0 + 1)) by omega) (by omega) | exact rb_keep (by omega) h2 ec (show f3 r0 = min (og X n r0) (og X n (r0 + 1)) by omega) (by omega)) rfl
          · -- 79: no
            refine g_iload XX d_MO_repeat_82 0 rfl ?_
            refine g_iload_n XX d_MO_repeat_84 rfl 3 rfl ?_
            refine g_icmp_ge (tgt := 94) XX d_MO_repeat_85 (by decide) ⟨by omega, by omega⟩ ⟨by omega, by omega⟩ (fun h85 => ?_) (fun h85 => ?_)
            · -- 85: yes
              refine g_iinc (lv' := [(3, .int (iI (r0 + 1))), (5, .int (iI (f3 r0))), (4, .int (iI (al X n X n (f3 r0) (f3 (r0 + 1))))), (2, .int (iI l0)), (1, .int (iI b0)), (0, .ref y)]) XX d_MO_repeat_94 2 rfl (by decide) rfl ?_
              refine g_goto (tgt := 6) XX d_MO_repeat_97 (by decide) ?_
              refine g_lv (lv' := [(3, .int (iI (r0 + 1))), (2, .int (iI l0)), (1, .int (iI b0)), (0, .ref y)]) [0, 3, 4, 5] rfl ?_
              refine g_ws (ws' := [cO y 5 [.int (iI t), .ref b1, .int (iI n), .ref b2, .ref b3, .int (iI m), .ref b4, .ref b5, .ref b6, .ref b7], cR b2 cA 96 f2, cR b3 cA 97 f3]) [1, 2, 0] (by decide) rfl ?_
              exact ih_6 _ (by omega) b0 l0 (r0 + 1) (by omega) (by first | exact rb_put (by omega) h2 ec (show f3 (r0 + 1) = min (og X n r0) (og X n (r0 + 1)) by omega) (by omega) | exact rb_put (by omega) h2 ec (show f3 r0 = min (og X n r0) (og X n (r0 + 1)) by omega) (by omega) | exact rb_keep (by omega) h2 ec (show f3 (r0 + 1) = min (og X n r0) (og X n (r0 + 1)) by omega) (by omega) | exact rb_keep (by omega) h2 ec (show f3 r0 = min (og X n r0) (og X n (r0 + 1)) by omega) (by omega)) rfl
            · -- 85: no
              refine g_iload XX d_MO_repeat_88 1 rfl ?_
              refine g_istore_n (lv' := [(1, .int (iI (al X n X n (f3 r0) (f3 (r0 + 1))))), (5, .int (iI (f3 r0))), (4, .int (iI (al X n X n (f3 r0) (f3 (r0 + 1))))), (3, .int (iI r0)), (2, .int (iI l0)), (0, .ref y)]) XX d_MO_repeat_90 rfl (by decide) rfl ?_
              refine g_iload XX d_MO_repeat_91 1 rfl ?_
              refine g_istore_n (lv' := [(2, .int (iI (f3 r0))), (1, .int (iI (al X n X n (f3 r0) (f3 (r0 + 1))))), (5, .int (iI (f3 r0))), (4, .int (iI (al X n X n (f3 r0) (f3 (r0 + 1))))), (3, .int (iI r0)), (0, .ref y)]) XX d_MO_repeat_93 rfl (by decide) rfl ?_
              refine g_iinc (lv' := [(3, .int (iI (r0 + 1))), (2, .int (iI (f3 r0))), (1, .int (iI (al X n X n (f3 r0) (f3 (r0 + 1))))), (5, .int (iI (f3 r0))), (4, .int (iI (al X n X n (f3 r0) (f3 (r0 + 1))))), (0, .ref y)]) XX d_MO_repeat_94 4 rfl (by decide) rfl ?_
              refine g_goto (tgt := 6) XX d_MO_repeat_97 (by decide) ?_
              refine g_lv (lv' := [(3, .int (iI (r0 + 1))), (2, .int (iI (f3 r0))), (1, .int (iI (al X n X n (f3 r0) (f3 (r0 + 1))))), (0, .ref y)]) [0, 1, 2, 5] rfl ?_
              refine g_ws (ws' := [cO y 5 [.int (iI t), .ref b1, .int (iI n), .ref b2, .ref b3, .int (iI m), .ref b4, .ref b5, .ref b6, .ref b7], cR b2 cA 96 f2, cR b3 cA 97 f3]) [1, 2, 0] (by decide) rfl ?_
              exact ih_6 _ (by omega) (al X n X n (f3 r0) (f3 (r0 + 1))) (f3 r0) (r0 + 1) (by omega) (by first | exact rb_put (by omega) h2 ec (show f3 (r0 + 1) = min (og X n r0) (og X n (r0 + 1)) by omega) (by omega) | exact rb_put (by omega) h2 ec (show f3 r0 = min (og X n r0) (og X n (r0 + 1)) by omega) (by omega) | exact rb_keep (by omega) h2 ec (show f3 (r0 + 1) = min (og X n r0) (og X n (r0 + 1)) by omega) (by omega) | exact rb_keep (by omega) h2 ec (show f3 r0 = min (og X n r0) (og X n (r0 + 1)) by omega) (by omega)) rfl
  exact L6 _ 0 0 0 (by omega) (rfl) rfl
abbrev rm_M_fits : Room := { frames := 0, cells := 0, slots := 0, locals := 0 }
set_option maxHeartbeats 4000000 in
set_option maxRecDepth 100000 in
theorem c_M_fits (l : Launch) (D : va_G) (cA : ClassId) (y b1 b2 b3 b4 b5 b6 b7 : Nat) (f2 X f4 Pt : Int → Int) (t n m i j : Int) (hn : 0 ≤ n ∧ n ≤ 96) (hm : 0 ≤ m ∧ m ≤ 96) (hfX : ag f2 X n) (hbX : bt8 X n) (hfP : ag f4 Pt m) (hbP : bt8 Pt m) (hij : 0 ≤ i ∧ i ≤ n ∧ 0 ≤ j ∧ j ≤ m) : xM l y_MO_fits w_MO_fits rm_M_fits D vwCl [(cA, .int)] [.ref y, .int (iI i), .int (iI j)] [cO y 5 [.int (iI t), .ref b1, .int (iI n), .ref b2, .ref b3, .int (iI m), .ref b4, .ref b5, .ref b6, .ref b7], cR b2 cA 96 f2, cR b4 cA 96 f4] (fun r w => r = iI (al Pt m X n j i) ∧ w = [cO y 5 [.int (iI t), .ref b1, .int (iI n), .ref b2, .ref b3, .int (iI m), .ref b4, .ref b5, .ref b6, .ref b7], cR b2 cA 96 f2, cR b4 cA 96 f4]) 0 0 := by
  refine xM.ofI (by decide) rfl (Nat.le_of_ble_eq_true rfl) ?_
  intro P0 E0 S0 M0 A0 B0 T0 C0 AA QQ XX hnm ret
  refine g_iconst XX d_MO_fits_0 ?_
  refine g_istore_n (lv' := [(3, .int (iI 0)), (0, .ref y), (1, .int (iI i)), (2, .int (iI j))]) XX d_MO_fits_1 rfl (by decide) rfl ?_
  have L2 : ∀ (k_2 : Nat) (cc : Int), (0 ≤ cc ∧ i + cc ≤ n ∧ j + cc ≤ m) → (∀ j0, 0 ≤ j0 → j0 < cc → Pt (j + j0) = X (i + j0)) → (n - i - cc).toNat = k_2 → xG P0 l E0 rm_M_fits S0 M0 A0 B0 T0 C0 QQ 4 D vwCl AA 0 0 [cO y 5 [.int (iI t), .ref b1, .int (iI n), .ref b2, .ref b3, .int (iI m), .ref b4, .ref b5, .ref b6, .ref b7], cR b2 cA 96 f2, cR b4 cA 96 f4] 2 [(3, .int (iI cc)), (0, .ref y), (1, .int (iI i)), (2, .int (iI j))] [] := by
    refine x_ind (fun k_2 ih_2 cc hc he hk_2 => ?_)
    refine g_iload_n XX d_MO_fits_2 rfl 2 rfl ?_
    refine g_iload_n XX d_MO_fits_3 rfl 0 rfl ?_
    refine g_iadd XX d_MO_fits_4 ?_
    refine g_aload_n XX d_MO_fits_5 rfl 1 rfl ?_
    refine g_get (C := R_MO) (T := T_MO) (N := 10) XX (tmw win0_MO) 0 rfl rfl 2 (by decide) (tm kw_119) rfl rfl d_MO_fits_6 ?_
    refine g_icmp_ge (tgt := 47) XX d_MO_fits_9 (by decide) ⟨by omega, by omega⟩ ⟨by omega, by omega⟩ (fun h9 => ?_) (fun h9 => ?_)
    · -- 9: yes
      refine g_iload_n XX d_MO_fits_47 rfl 0 rfl ?_
      exact ret _ _ _ _ [cO y 5 [.int (iI t), .ref b1, .int (iI n), .ref b2, .ref b3, .int (iI m), .ref b4, .ref b5, .ref b6, .ref b7], cR b2 cA 96 f2, cR b4 cA 96 f4] [0, 1, 2] d_MO_fits_48 (by decide) rfl (⟨congrArg iI (al_eq (show isAl Pt m X n j i cc from ⟨by omega, by omega, by omega, he, by omega⟩)).symm, rfl⟩)
    · -- 9: no
      refine g_iload_n XX d_MO_fits_12 rfl 3 rfl ?_
      refine g_iload_n XX d_MO_fits_13 rfl 0 rfl ?_
      refine g_iadd XX d_MO_fits_14 ?_
      refine g_aload_n XX d_MO_fits_15 rfl 1 rfl ?_
      refine g_get (C := R_MO) (T := T_MO) (N := 10) XX (tmw win0_MO) 0 rfl rfl 5 (by decide) (tm kw_141) rfl rfl d_MO_fits_16 ?_
      refine g_icmp_ge (tgt := 47) XX d_MO_fits_19 (by decide) ⟨by omega, by omega⟩ ⟨by omega, by omega⟩ (fun h19 => ?_) (fun h19 => ?_)
      · -- 19: yes
        refine g_iload_n XX d_MO_fits_47 rfl 0 rfl ?_
        exact ret _ _ _ _ [cO y 5 [.int (iI t), .ref b1, .int (iI n), .ref b2, .ref b3, .int (iI m), .ref b4, .ref b5, .ref b6, .ref b7], cR b2 cA 96 f2, cR b4 cA 96 f4] [0, 1, 2] d_MO_fits_48 (by decide) rfl (⟨congrArg iI (al_eq (show isAl Pt m X n j i cc from ⟨by omega, by omega, by omega, he, by omega⟩)).symm, rfl⟩)
      · -- 19: no
        refine g_aload_n XX d_MO_fits_22 rfl 1 rfl ?_
        refine g_get (C := R_MO) (T := T_MO) (N := 10) XX (tmw win0_MO) 0 rfl rfl 3 (by decide) (tm kw_111) rfl rfl d_MO_fits_23 ?_
        refine g_iload_n XX d_MO_fits_26 rfl 2 rfl ?_
        refine g_iload_n XX d_MO_fits_27 rfl 0 rfl ?_
        refine g_iadd XX d_MO_fits_28 ?_
        refine g_iald XX 1 0 rfl rfl ⟨by omega, by omega, by decide⟩ d_MO_fits_29 ?_
        refine g_aload_n XX d_MO_fits_30 rfl 1 rfl ?_
        refine g_get (C := R_MO) (T := T_MO) (N := 10) XX (tmw win0_MO) 0 rfl rfl 6 (by decide) (tm kw_113) rfl rfl d_MO_fits_31 ?_
        refine g_iload_n XX d_MO_fits_34 rfl 3 rfl ?_
        refine g_iload_n XX d_MO_fits_35 rfl 0 rfl ?_
        refine g_iadd XX d_MO_fits_36 ?_
        refine g_iald XX 2 0 rfl rfl ⟨by omega, by omega, by decide⟩ d_MO_fits_37 ?_
        have e1 := hfX (i + cc) (by omega) (by omega)
        have e2 := hfP (j + cc) (by omega) (by omega)
        have bb1 := hbX (i + cc) (by omega) (by omega)
        have bb2 := hbP (j + cc) (by omega) (by omega)
        refine g_icmp_ne (tgt := 47) XX d_MO_fits_38 (by decide) ⟨by omega, by omega⟩ ⟨by omega, by omega⟩ (fun h38 => ?_) (fun h38 => ?_)
        · -- 38: yes
          refine g_iload_n XX d_MO_fits_47 rfl 0 rfl ?_
          exact ret _ _ _ _ [cO y 5 [.int (iI t), .ref b1, .int (iI n), .ref b2, .ref b3, .int (iI m), .ref b4, .ref b5, .ref b6, .ref b7], cR b2 cA 96 f2, cR b4 cA 96 f4] [0, 1, 2] d_MO_fits_48 (by decide) rfl (⟨congrArg iI (al_eq (show isAl Pt m X n j i cc from ⟨by omega, by omega, by omega, he, by omega⟩)).symm, rfl⟩)
        · -- 38: no
          refine g_iinc (lv' := [(3, .int (iI (cc + 1))), (0, .ref y), (1, .int (iI i)), (2, .int (iI j))]) XX d_MO_fits_41 0 rfl (by decide) rfl ?_
          refine g_goto (tgt := 2) XX d_MO_fits_44 (by decide) ?_
          exact ih_2 _ (by omega) (cc + 1) (by omega) (all_s he (by show Pt (j + cc) = X (i + cc); omega)) rfl
  exact L2 _ 0 (by omega) (fun j0 a b => by omega) rfl
abbrev rm_M_hits : Room := { frames := 1, cells := 0, slots := 0, locals := 23 }
set_option maxHeartbeats 4000000 in
set_option maxRecDepth 100000 in
theorem c_M_hits (l : Launch) (D : va_G) (cA : ClassId) (y b1 b2 b3 b4 b5 b6 b7 : Nat) (f2 X f4 Pt : Int → Int) (t n m : Int) (hn : 0 ≤ n ∧ n ≤ 96) (hm : 0 ≤ m ∧ m ≤ 96) (hfX : ag f2 X n) (hbX : bt8 X n) (hfP : ag f4 Pt m) (hbP : bt8 Pt m) : xM l y_MO_hits w_MO_hits rm_M_hits D vwCl [(cA, .int)] [.ref y] [cO y 5 [.int (iI t), .ref b1, .int (iI n), .ref b2, .ref b3, .int (iI m), .ref b4, .ref b5, .ref b6, .ref b7], cR b2 cA 96 f2, cR b4 cA 96 f4] (fun r w => r = iI (cnt (htb Pt m X n) (n + 1)) ∧ w = [cO y 5 [.int (iI t), .ref b1, .int (iI n), .ref b2, .ref b3, .int (iI m), .ref b4, .ref b5, .ref b6, .ref b7], cR b2 cA 96 f2, cR b4 cA 96 f4]) 0 0 := by
  refine xM.ofI (by decide) rfl (Nat.le_of_ble_eq_true rfl) ?_
  intro P0 E0 S0 M0 A0 B0 T0 C0 AA QQ XX hnm ret
  refine g_iconst XX d_MO_hits_0 ?_
  refine g_istore_n (lv' := [(1, .int (iI 0)), (0, .ref y)]) XX d_MO_hits_1 rfl (by decide) rfl ?_
  refine g_iconst XX d_MO_hits_2 ?_
  refine g_istore_n (lv' := [(2, .int (iI 0)), (1, .int (iI 0)), (0, .ref y)]) XX d_MO_hits_3 rfl (by decide) rfl ?_
  have L4 : ∀ (k_4 : Nat) (c0 : Int) (p0 : Int), (0 ≤ p0 ∧ p0 ≤ n + 1) → (c0 = cnt (htb Pt m X n) p0) → (n + 1 - p0).toNat = k_4 → xG P0 l E0 rm_M_hits S0 M0 A0 B0 T0 C0 QQ 3 D vwCl AA 0 0 [cO y 5 [.int (iI t), .ref b1, .int (iI n), .ref b2, .ref b3, .int (iI m), .ref b4, .ref b5, .ref b6, .ref b7], cR b2 cA 96 f2, cR b4 cA 96 f4] 4 [(2, .int (iI p0)), (1, .int (iI c0)), (0, .ref y)] [] := by
    refine x_ind (fun k_4 ih_4 c0 p0 h1 h2 hk_4 => ?_)
    refine g_iload_n XX d_MO_hits_4 rfl 0 rfl ?_
    refine g_aload_n XX d_MO_hits_5 rfl 2 rfl ?_
    refine g_get (C := R_MO) (T := T_MO) (N := 10) XX (tmw win0_MO) 0 rfl rfl 2 (by decide) (tm kw_119) rfl rfl d_MO_hits_6 ?_
    refine g_icmp_gt (tgt := 39) XX d_MO_hits_9 (by decide) ⟨by omega, by omega⟩ ⟨by omega, by omega⟩ (fun h9 => ?_) (fun h9 => ?_)
    · -- 9: yes
      refine g_iload_n XX d_MO_hits_39 rfl 1 rfl ?_
      exact ret _ _ _ _ [cO y 5 [.int (iI t), .ref b1, .int (iI n), .ref b2, .ref b3, .int (iI m), .ref b4, .ref b5, .ref b6, .ref b7], cR b2 cA 96 f2, cR b4 cA 96 f4] [0, 1, 2] d_MO_hits_40 (by decide) rfl (⟨by rw [h2, show p0 = n + 1 by omega], rfl⟩)
    · -- 9: no
      refine g_iload_n XX d_MO_hits_12 rfl 1 rfl ?_
      refine g_aload_n XX d_MO_hits_13 rfl 2 rfl ?_
      refine g_iload_n XX d_MO_hits_14 rfl 0 rfl ?_
      refine g_iconst XX d_MO_hits_15 ?_
      refine g_calli (As := [.int (iI p0), .int (iI 0)]) (st := [.int (iI c0)]) (wr := []) XX (c_M_fits l D cA y b1 b2 b3 b4 b5 b6 b7 f2 X f4 Pt t n m p0 0 (by first | assumption | omega) (by first | assumption | omega) (by first | assumption | omega) (by first | assumption | omega) (by first | assumption | omega) (by first | assumption | omega) (by first | assumption | omega)) (x_cw 2 XX.2.2.2.2.1 (gi kw_142) rfl rfl (tm kw_123) (tm kw_143) (tm kw_144) (tm kw_145) ⟨by decide +kernel, by decide +kernel, by decide +kernel⟩ ⟨by decide, by decide⟩) [0, 1, 2] [] rfl rfl (by decide) (by decide) (by decide) 0 5 rfl rfl rfl rfl (Nat.le_of_ble_eq_true rfl) d_MO_hits_16 ⟨by decide, by decide⟩ (fun r_ w_ hq => ?_)
      obtain ⟨rfl, rfl⟩ := hq
      show xG P0 l E0 rm_M_hits S0 M0 A0 B0 T0 C0 QQ 3 D vwCl AA 0 0 [cO y 5 [.int (iI t), .ref b1, .int (iI n), .ref b2, .ref b3, .int (iI m), .ref b4, .ref b5, .ref b6, .ref b7], cR b2 cA 96 f2, cR b4 cA 96 f4] 19 [(2, .int (iI p0)), (1, .int (iI c0)), (0, .ref y)] [.int (iI (al Pt m X n 0 p0)), .int (iI c0)]
      refine g_aload_n XX d_MO_hits_19 rfl 2 rfl ?_
      refine g_get (C := R_MO) (T := T_MO) (N := 10) XX (tmw win0_MO) 0 rfl rfl 5 (by decide) (tm kw_141) rfl rfl d_MO_hits_20 ?_
      have g := al_rng (f := Pt) (n := m) (g := X) (m := n) (p := 0) (q := p0) (by omega) (by omega)
      refine g_icmp_ne (tgt := 30) XX d_MO_hits_23 (by decide) ⟨by omega, by omega⟩ ⟨by omega, by omega⟩ (fun h23 => ?_) (fun h23 => ?_)
      · -- 23: yes
        have hz : htb Pt m X n p0 = false := by simp only [htb, decide_eq_false_iff_not]; omega
        refine g_iconst XX d_MO_hits_30 ?_
        refine g_iadd XX d_MO_hits_31 ?_
        refine g_istore_n (lv' := [(1, .int (iI (c0 + 0))), (2, .int (iI p0)), (0, .ref y)]) XX d_MO_hits_32 rfl (by decide) rfl ?_
        refine g_iinc (lv' := [(2, .int (iI (p0 + 1))), (1, .int (iI (c0 + 0))), (0, .ref y)]) XX d_MO_hits_33 1 rfl (by decide) rfl ?_
        refine g_goto (tgt := 4) XX d_MO_hits_36 (by decide) ?_
        exact ih_4 _ (by omega) (c0 + 0) (p0 + 1) (by omega) (by first | (rw [h2, cnt_y (by omega) hz]; done) | (rw [cnt_n (by omega) hz, Int.add_zero]; exact h2)) rfl
      · -- 23: no
        have hz : htb Pt m X n p0 = true := by simp only [htb, decide_eq_true_eq]; omega
        refine g_iconst XX d_MO_hits_26 ?_
        refine g_goto (tgt := 31) XX d_MO_hits_27 (by decide) ?_
        refine g_iadd XX d_MO_hits_31 ?_
        refine g_istore_n (lv' := [(1, .int (iI (c0 + 1))), (2, .int (iI p0)), (0, .ref y)]) XX d_MO_hits_32 rfl (by decide) rfl ?_
        refine g_iinc (lv' := [(2, .int (iI (p0 + 1))), (1, .int (iI (c0 + 1))), (0, .ref y)]) XX d_MO_hits_33 1 rfl (by decide) rfl ?_
        refine g_goto (tgt := 4) XX d_MO_hits_36 (by decide) ?_
        exact ih_4 _ (by omega) (c0 + 1) (p0 + 1) (by omega) (by first | (rw [h2, cnt_y (by omega) hz]; done) | (rw [cnt_n (by omega) hz, Int.add_zero]; exact h2)) rfl
  exact L4 _ 0 0 (by omega) ((cnt_0 (by omega)).symm) rfl
abbrev rm_M_seek : Room := { frames := 2, cells := 0, slots := 0, locals := 45 }
set_option maxHeartbeats 4000000 in
set_option maxRecDepth 100000 in
theorem c_M_seek (l : Launch) (D : va_G) (cA : ClassId) (y b1 b2 b3 b4 b5 b6 b7 : Nat) (f1 T f2 X f4 : Int → Int) (t n m : Int) (ht : 0 ≤ t ∧ t ≤ 96) (hn : 0 ≤ n ∧ n ≤ 96) (hfT : ag f1 T t) (hbT : bt8 T t) (hfX : ag f2 X n) (hbX : bt8 X n) : xM l y_MO_seek w_MO_seek rm_M_seek D vwCl [(cA, .int)] [.ref y] [cO y 5 [.int (iI t), .ref b1, .int (iI n), .ref b2, .ref b3, .int (iI m), .ref b4, .ref b5, .ref b6, .ref b7], cR b1 cA 96 f1, cR b2 cA 96 f2, cR b4 cA 96 f4] (fun r w => ∃ (f4' : Int → Int), r = iI (cnt (htb T t X n) (n + 1)) ∧ w = [cO y 5 [.int (iI 0), .ref b1, .int (iI n), .ref b2, .ref b3, .int (iI t), .ref b4, .ref b5, .ref b6, .ref b7], cR b1 cA 96 f1, cR b2 cA 96 f2, cR b4 cA 96 f4'] ∧ (ag f4' T t)) 0 0 := by
  refine xM.ofI (by decide) rfl (Nat.le_of_ble_eq_true rfl) ?_
  intro P0 E0 S0 M0 A0 B0 T0 C0 AA QQ XX hnm ret
  refine g_iconst XX d_MO_seek_0 ?_
  refine g_istore_n (lv' := [(1, .int (iI 0)), (0, .ref y)]) XX d_MO_seek_1 rfl (by decide) rfl ?_
  have L2 : ∀ (k_2 : Nat) (k0 : Int) (fc : Int → Int), (0 ≤ k0 ∧ k0 ≤ t) → (ag fc T k0) → (t - k0).toNat = k_2 → xG P0 l E0 rm_M_seek S0 M0 A0 B0 T0 C0 QQ 2 D vwCl AA 0 0 [cO y 5 [.int (iI t), .ref b1, .int (iI n), .ref b2, .ref b3, .int (iI m), .ref b4, .ref b5, .ref b6, .ref b7], cR b1 cA 96 f1, cR b2 cA 96 f2, cR b4 cA 96 fc] 2 [(1, .int (iI k0)), (0, .ref y)] [] := by
    refine x_ind (fun k_2 ih_2 k0 fc h1 h2 hk_2 => ?_)
    refine g_iload_n XX d_MO_seek_2 rfl 0 rfl ?_
    refine g_aload_n XX d_MO_seek_3 rfl 1 rfl ?_
    refine g_get (C := R_MO) (T := T_MO) (N := 10) XX (tmw win0_MO) 0 rfl rfl 0 (by decide) (tm kw_117) rfl rfl d_MO_seek_4 ?_
    refine g_icmp_ge (tgt := 28) XX d_MO_seek_7 (by decide) ⟨by omega, by omega⟩ ⟨by omega, by omega⟩ (fun h7 => ?_) (fun h7 => ?_)
    · -- 7: yes
      refine g_aload_n XX d_MO_seek_28 rfl 1 rfl ?_
      refine g_aload_n XX d_MO_seek_29 rfl 1 rfl ?_
      refine g_get (C := R_MO) (T := T_MO) (N := 10) XX (tmw win0_MO) 0 rfl rfl 0 (by decide) (tm kw_117) rfl rfl d_MO_seek_30 ?_
      refine g_put (C := R_MO) (T := T_MO) (N := 10) (ty := (.int)) (ws' := [cO y 5 [.int (iI t), .ref b1, .int (iI n), .ref b2, .ref b3, .int (iI t), .ref b4, .ref b5, .ref b6, .ref b7], cR b1 cA 96 f1, cR b2 cA 96 f2, cR b4 cA 96 fc]) XX (tmw win0_MO) ty_MO ok_MO nm_MO 0 rfl rfl 5 (by decide) (tm kw_141) rfl rfl (by decide +kernel) rfl rfl (Nat.le_of_ble_eq_true rfl) rfl d_MO_seek_33 ?_
      refine g_aload_n XX d_MO_seek_36 rfl 1 rfl ?_
      refine g_iconst XX d_MO_seek_37 ?_
      refine g_put (C := R_MO) (T := T_MO) (N := 10) (ty := (.int)) (ws' := [cO y 5 [.int (iI 0), .ref b1, .int (iI n), .ref b2, .ref b3, .int (iI t), .ref b4, .ref b5, .ref b6, .ref b7], cR b1 cA 96 f1, cR b2 cA 96 f2, cR b4 cA 96 fc]) XX (tmw win0_MO) ty_MO ok_MO nm_MO 0 rfl rfl 0 (by decide) (tm kw_117) rfl rfl (by decide +kernel) rfl rfl (Nat.le_of_ble_eq_true rfl) rfl d_MO_seek_38 ?_
      refine g_aload_n XX d_MO_seek_41 rfl 1 rfl ?_
      refine g_calli (As := []) (st := []) (wr := [cR b1 cA 96 f1]) XX (c_M_hits l D cA y b1 b2 b3 b4 b5 b6 b7 f2 X fc T 0 n t (by first | assumption | omega) (by first | assumption | omega) (by first | assumption | omega) (by first | assumption | omega) (ag_le h2 (by omega)) (hbT)) (x_cw 0 XX.2.2.2.2.1 (gi kw_146) rfl rfl (tm kw_123) (tm kw_147) (tm kw_148) (tm kw_149) ⟨by decide +kernel, by decide +kernel, by decide +kernel⟩ ⟨by decide, by decide⟩) [0, 2, 3] [1] rfl rfl (by decide) (by decide) (by decide) 0 5 rfl rfl rfl rfl (Nat.le_of_ble_eq_true rfl) d_MO_seek_42 ⟨by decide, by decide⟩ (fun r_ w_ hq => ?_)
      obtain ⟨rfl, rfl⟩ := hq
      show xG P0 l E0 rm_M_seek S0 M0 A0 B0 T0 C0 QQ 2 D vwCl AA 0 0 [cR b1 cA 96 f1, cO y 5 [.int (iI 0), .ref b1, .int (iI n), .ref b2, .ref b3, .int (iI t), .ref b4, .ref b5, .ref b6, .ref b7], cR b2 cA 96 f2, cR b4 cA 96 fc] 45 [(1, .int (iI k0)), (0, .ref y)] [.int (iI (cnt (htb T t X n) (n + 1)))]
      exact ret _ _ _ _ [cO y 5 [.int (iI 0), .ref b1, .int (iI n), .ref b2, .ref b3, .int (iI t), .ref b4, .ref b5, .ref b6, .ref b7], cR b1 cA 96 f1, cR b2 cA 96 f2, cR b4 cA 96 fc] [1, 0, 2, 3] d_MO_seek_45 (by decide) rfl (⟨fc, rfl, rfl, ag_le h2 (by omega)⟩)
    · -- 7: no
      refine g_aload_n XX d_MO_seek_10 rfl 1 rfl ?_
      refine g_get (C := R_MO) (T := T_MO) (N := 10) XX (tmw win0_MO) 0 rfl rfl 6 (by decide) (tm kw_113) rfl rfl d_MO_seek_11 ?_
      refine g_iload_n XX d_MO_seek_14 rfl 0 rfl ?_
      refine g_aload_n XX d_MO_seek_15 rfl 1 rfl ?_
      refine g_get (C := R_MO) (T := T_MO) (N := 10) XX (tmw win0_MO) 0 rfl rfl 1 (by decide) (tm kw_110) rfl rfl d_MO_seek_16 ?_
      refine g_iload_n XX d_MO_seek_19 rfl 0 rfl ?_
      refine g_iald XX 1 0 rfl rfl ⟨by omega, by omega, by decide⟩ d_MO_seek_20 ?_
      refine g_iast (ws' := [cO y 5 [.int (iI t), .ref b1, .int (iI n), .ref b2, .ref b3, .int (iI m), .ref b4, .ref b5, .ref b6, .ref b7], cR b1 cA 96 f1, cR b2 cA 96 f2, cR b4 cA 96 (iup fc k0 (f1 k0))]) XX 3 0 rfl rfl ⟨by omega, by omega, by decide⟩ rfl d_MO_seek_21 ?_
      refine g_iinc (lv' := [(1, .int (iI (k0 + 1))), (0, .ref y)]) XX d_MO_seek_22 0 rfl (by decide) rfl ?_
      refine g_goto (tgt := 2) XX d_MO_seek_25 (by decide) ?_
      exact ih_2 _ (by omega) (k0 + 1) (iup fc k0 (f1 k0)) (by omega) (ag_s h2 (hfT k0 (by omega) (by omega))) rfl
  exact L2 _ 0 f4 (by omega) (ag_0 (by omega)) rfl
abbrev rm_M_extend : Room := { frames := 2, cells := 0, slots := 0, locals := 45 }
set_option maxHeartbeats 4000000 in
set_option maxRecDepth 100000 in
theorem c_M_extend (l : Launch) (D : va_G) (cA : ClassId) (y b1 b2 b3 b4 b5 b6 b7 : Nat) (f2 X f4 Pt : Int → Int) (t n m i : Int) (hn : 0 ≤ n ∧ n ≤ 96) (hm : 0 ≤ m ∧ m ≤ 96) (hfX : ag f2 X n) (hbX : bt8 X n) (hfP : ag f4 Pt m) (hbP : bt8 Pt m) (hi : -2147483648 ≤ i ∧ i < 2147483648) : xM l y_MO_extend w_MO_extend rm_M_extend D vwCl [(cA, .int)] [.ref y, .int (iI i)] [cO y 5 [.int (iI t), .ref b1, .int (iI n), .ref b2, .ref b3, .int (iI m), .ref b4, .ref b5, .ref b6, .ref b7], cR b2 cA 96 f2, cR b4 cA 96 f4] (fun r w => ∃ (f4' : Int → Int), r = iI (if exR m i = 0 then cnt (htb (exG Pt m i) (exN m i) X n) (n + 1) else exR m i) ∧ w = [cO y 5 [.int (iI t), .ref b1, .int (iI n), .ref b2, .ref b3, .int (iI (exN m i)), .ref b4, .ref b5, .ref b6, .ref b7], cR b2 cA 96 f2, cR b4 cA 96 f4'] ∧ (ag f4' (exG Pt m i) (exN m i))) 0 0 := by
  refine xM.ofI (by decide) rfl (Nat.le_of_ble_eq_true rfl) ?_
  intro P0 E0 S0 M0 A0 B0 T0 C0 AA QQ XX hnm ret
  refine g_iload_n XX d_MO_extend_0 rfl 1 rfl ?_
  refine g_if_lt (tgt := 11) XX d_MO_extend_1 (by decide) ⟨by omega, by omega⟩ (fun h1 => ?_) (fun h1 => ?_)
  · -- 1: yes
    have hz : exR m i = -1 := exR_bad (by omega)
    refine g_iconst XX d_MO_extend_11 ?_
    exact ret _ _ _ _ [cO y 5 [.int (iI t), .ref b1, .int (iI n), .ref b2, .ref b3, .int (iI m), .ref b4, .ref b5, .ref b6, .ref b7], cR b2 cA 96 f2, cR b4 cA 96 f4] [0, 1, 2] d_MO_extend_12 (by decide) rfl (⟨f4, by rw [if_neg (by omega), hz], by rw [exN_bad (by omega)], by rw [exN_bad (by omega), exG_bad (by omega)]; exact hfP⟩)
  · -- 1: no
    refine g_iload_n XX d_MO_extend_4 rfl 1 rfl ?_
    refine g_sipush (v := 255) XX d_MO_extend_5 (by decide) ?_
    refine g_icmp_le (tgt := 13) XX d_MO_extend_8 (by decide) ⟨by omega, by omega⟩ ⟨by omega, by omega⟩ (fun h8 => ?_) (fun h8 => ?_)
    · -- 8: yes
      refine g_aload_n XX d_MO_extend_13 rfl 0 rfl ?_
      refine g_get (C := R_MO) (T := T_MO) (N := 10) XX (tmw win0_MO) 0 rfl rfl 5 (by decide) (tm kw_141) rfl rfl d_MO_extend_14 ?_
      refine g_bipush (v := 96) XX d_MO_extend_17 (by decide) ?_
      refine g_icmp_ne (tgt := 25) XX d_MO_extend_19 (by decide) ⟨by omega, by omega⟩ ⟨by omega, by omega⟩ (fun h19 => ?_) (fun h19 => ?_)
      · -- 19: yes
        have hz : exR m i = 0 := exR_ok (by omega) (by omega)
        refine g_aload_n XX d_MO_extend_25 rfl 0 rfl ?_
        refine g_get (C := R_MO) (T := T_MO) (N := 10) XX (tmw win0_MO) 0 rfl rfl 5 (by decide) (tm kw_141) rfl rfl d_MO_extend_26 ?_
        refine g_istore_n (lv' := [(2, .int (iI m)), (0, .ref y), (1, .int (iI i))]) XX d_MO_extend_29 rfl (by decide) rfl ?_
        have L30 : ∀ (k_30 : Nat) (k0 : Int) (f42 : Int → Int), (0 ≤ k0 ∧ k0 ≤ m) → (∀ j, 0 ≤ j → j ≤ k0 → f42 j = f4 j) → (∀ j, k0 < j → j ≤ m → f42 j = f4 (j - 1)) → (k0).toNat = k_30 → xG P0 l E0 rm_M_extend S0 M0 A0 B0 T0 C0 QQ 3 D vwCl AA 0 0 [cO y 5 [.int (iI t), .ref b1, .int (iI n), .ref b2, .ref b3, .int (iI m), .ref b4, .ref b5, .ref b6, .ref b7], cR b2 cA 96 f2, cR b4 cA 96 f42] 30 [(2, .int (iI k0)), (0, .ref y), (1, .int (iI i))] [] := by
          refine x_ind (fun k_30 ih_30 k0 f42 d1 d2 d3 hk_30 => ?_)
          refine g_iload_n XX d_MO_extend_30 rfl 0 rfl ?_
          refine g_if_le (tgt := 54) XX d_MO_extend_31 (by decide) ⟨by omega, by omega⟩ (fun h31 => ?_) (fun h31 => ?_)
          · -- 31: yes
            have hag := exs_ag (g := f42) hz hfP (fun j a b => d3 j (by omega) b)
            refine g_aload_n XX d_MO_extend_54 rfl 1 rfl ?_
            refine g_get (C := R_MO) (T := T_MO) (N := 10) XX (tmw win0_MO) 0 rfl rfl 6 (by decide) (tm kw_113) rfl rfl d_MO_extend_55 ?_
            refine g_iconst XX d_MO_extend_58 ?_
            refine g_iload_n XX d_MO_extend_59 rfl 2 rfl ?_
            refine g_iast (ws' := [cO y 5 [.int (iI t), .ref b1, .int (iI n), .ref b2, .ref b3, .int (iI m), .ref b4, .ref b5, .ref b6, .ref b7], cR b2 cA 96 f2, cR b4 cA 96 (iup f42 0 i)]) XX 2 0 rfl rfl ⟨by omega, by omega, by decide⟩ rfl d_MO_extend_60 ?_
            refine g_aload_n XX d_MO_extend_61 rfl 1 rfl ?_
            refine g_dup XX d_MO_extend_62 rfl ?_
            refine g_get (C := R_MO) (T := T_MO) (N := 10) XX (tmw win0_MO) 0 rfl rfl 5 (by decide) (tm kw_141) rfl rfl d_MO_extend_63 ?_
            refine g_iconst XX d_MO_extend_66 ?_
            refine g_iadd XX d_MO_extend_67 ?_
            refine g_put (C := R_MO) (T := T_MO) (N := 10) (ty := (.int)) (ws' := [cO y 5 [.int (iI t), .ref b1, .int (iI n), .ref b2, .ref b3, .int (iI (m + 1)), .ref b4, .ref b5, .ref b6, .ref b7], cR b2 cA 96 f2, cR b4 cA 96 (iup f42 0 i)]) XX (tmw win0_MO) ty_MO ok_MO nm_MO 0 rfl rfl 5 (by decide) (tm kw_141) rfl rfl (by decide +kernel) rfl rfl (Nat.le_of_ble_eq_true rfl) rfl d_MO_extend_68 ?_
            refine g_aload_n XX d_MO_extend_71 rfl 1 rfl ?_
            refine g_calli (As := []) (st := []) (wr := []) XX (c_M_hits l D cA y b1 b2 b3 b4 b5 b6 b7 f2 X (iup f42 0 i) (exG Pt m i) t n (m + 1) (by first | assumption | omega) (by first | assumption | omega) (by first | assumption | omega) (by first | assumption | omega) (hag) (by have := exG_bt (b := i) hbP; rwa [exN_ok hz] at this)) (x_cw 0 XX.2.2.2.2.1 (gi kw_146) rfl rfl (tm kw_123) (tm kw_147) (tm kw_148) (tm kw_149) ⟨by decide +kernel, by decide +kernel, by decide +kernel⟩ ⟨by decide, by decide⟩) [0, 1, 2] [] rfl rfl (by decide) (by decide) (by decide) 0 5 rfl rfl rfl rfl (Nat.le_of_ble_eq_true rfl) d_MO_extend_72 ⟨by decide, by decide⟩ (fun r_ w_ hq => ?_)
            obtain ⟨rfl, rfl⟩ := hq
            show xG P0 l E0 rm_M_extend S0 M0 A0 B0 T0 C0 QQ 3 D vwCl AA 0 0 [cO y 5 [.int (iI t), .ref b1, .int (iI n), .ref b2, .ref b3, .int (iI (m + 1)), .ref b4, .ref b5, .ref b6, .ref b7], cR b2 cA 96 f2, cR b4 cA 96 (iup f42 0 i)] 75 [(2, .int (iI k0)), (0, .ref y), (1, .int (iI i))] [.int (iI (cnt (htb (exG Pt m i) (m + 1) X n) (n + 1)))]
            exact ret _ _ _ _ [cO y 5 [.int (iI t), .ref b1, .int (iI n), .ref b2, .ref b3, .int (iI (m + 1)), .ref b4, .ref b5, .ref b6, .ref b7], cR b2 cA 96 f2, cR b4 cA 96 (iup f42 0 i)] [0, 1, 2] d_MO_extend_75 (by decide) rfl (⟨iup f42 0 i, by rw [if_pos hz, exN_ok hz], by rw [exN_ok hz], by rw [exN_ok hz]; exact hag⟩)
          · -- 31: no
            refine g_aload_n XX d_MO_extend_34 rfl 1 rfl ?_
            refine g_get (C := R_MO) (T := T_MO) (N := 10) XX (tmw win0_MO) 0 rfl rfl 6 (by decide) (tm kw_113) rfl rfl d_MO_extend_35 ?_
            refine g_iload_n XX d_MO_extend_38 rfl 0 rfl ?_
            refine g_aload_n XX d_MO_extend_39 rfl 1 rfl ?_
            refine g_get (C := R_MO) (T := T_MO) (N := 10) XX (tmw win0_MO) 0 rfl rfl 6 (by decide) (tm kw_113) rfl rfl d_MO_extend_40 ?_
            refine g_iload_n XX d_MO_extend_43 rfl 0 rfl ?_
            refine g_iconst XX d_MO_extend_44 ?_
            refine g_isub XX d_MO_extend_45 ?_
            refine g_iald XX 2 0 rfl rfl ⟨by omega, by omega, by decide⟩ d_MO_extend_46 ?_
            refine g_iast (ws' := [cO y 5 [.int (iI t), .ref b1, .int (iI n), .ref b2, .ref b3, .int (iI m), .ref b4, .ref b5, .ref b6, .ref b7], cR b2 cA 96 f2, cR b4 cA 96 (iup f42 k0 (f42 (k0 - 1)))]) XX 2 0 rfl rfl ⟨by omega, by omega, by decide⟩ rfl d_MO_extend_47 ?_
            refine g_iinc (lv' := [(2, .int (iI (k0 + (-1)))), (0, .ref y), (1, .int (iI i))]) XX d_MO_extend_48 0 rfl (by decide) rfl ?_
            refine g_goto (tgt := 30) XX d_MO_extend_51 (by decide) ?_
            exact ih_30 _ (by omega) (k0 + (-1)) (iup f42 k0 (f42 (k0 - 1))) (by omega) (fun j a b => by rw [iup_ne (by omega)]; exact d2 j a (by omega)) (fun j a b => if z : j = k0 then by rw [iup_eq z, z]; exact d2 (k0 - 1) (by omega) (by omega) else by rw [iup_ne z]; exact d3 j (by omega) b) rfl
        exact L30 _ m f4 (by omega) (fun j a b => rfl) (fun j a b => by omega) rfl
      · -- 19: no
        have hz : exR m i = -3 := exR_full (by omega) (by omega)
        refine g_bipush (v := -3) XX d_MO_extend_22 (by decide) ?_
        exact ret _ _ _ _ [cO y 5 [.int (iI t), .ref b1, .int (iI n), .ref b2, .ref b3, .int (iI m), .ref b4, .ref b5, .ref b6, .ref b7], cR b2 cA 96 f2, cR b4 cA 96 f4] [0, 1, 2] d_MO_extend_24 (by decide) rfl (⟨f4, by rw [if_neg (by omega), hz], by rw [exN_bad (by omega)], by rw [exN_bad (by omega), exG_bad (by omega)]; exact hfP⟩)
    · -- 8: no
      have hz : exR m i = -1 := exR_bad (by omega)
      refine g_iconst XX d_MO_extend_11 ?_
      exact ret _ _ _ _ [cO y 5 [.int (iI t), .ref b1, .int (iI n), .ref b2, .ref b3, .int (iI m), .ref b4, .ref b5, .ref b6, .ref b7], cR b2 cA 96 f2, cR b4 cA 96 f4] [0, 1, 2] d_MO_extend_12 (by decide) rfl (⟨f4, by rw [if_neg (by omega), hz], by rw [exN_bad (by omega)], by rw [exN_bad (by omega), exG_bad (by omega)]; exact hfP⟩)
abbrev rm_M_before : Room := { frames := 1, cells := 0, slots := 0, locals := 23 }
set_option maxHeartbeats 4000000 in
set_option maxRecDepth 100000 in
theorem c_M_before (l : Launch) (D : va_G) (cA : ClassId) (y b1 b2 b3 b4 b5 b6 b7 : Nat) (f2 X f4 Pt : Int → Int) (t n m : Int) (hn : 0 ≤ n ∧ n ≤ 96) (hm : 0 ≤ m ∧ m ≤ 96) (hfX : ag f2 X n) (hbX : bt8 X n) (hfP : ag f4 Pt m) (hbP : bt8 Pt m) : xM l y_MO_before w_MO_before rm_M_before D vwCl [(cA, .int)] [.ref y] [cO y 5 [.int (iI t), .ref b1, .int (iI n), .ref b2, .ref b3, .int (iI m), .ref b4, .ref b5, .ref b6, .ref b7], cR b2 cA 96 f2, cR b4 cA 96 f4] (fun r w => r = iI (cnt (bfb Pt m X n) (n + 1)) ∧ w = [cO y 5 [.int (iI t), .ref b1, .int (iI n), .ref b2, .ref b3, .int (iI m), .ref b4, .ref b5, .ref b6, .ref b7], cR b2 cA 96 f2, cR b4 cA 96 f4]) 0 0 := by
  refine xM.ofI (by decide) rfl (Nat.le_of_ble_eq_true rfl) ?_
  intro P0 E0 S0 M0 A0 B0 T0 C0 AA QQ XX hnm ret
  refine g_iconst XX d_MO_before_0 ?_
  refine g_istore_n (lv' := [(1, .int (iI 0)), (0, .ref y)]) XX d_MO_before_1 rfl (by decide) rfl ?_
  refine g_iconst XX d_MO_before_2 ?_
  refine g_istore_n (lv' := [(2, .int (iI 0)), (1, .int (iI 0)), (0, .ref y)]) XX d_MO_before_3 rfl (by decide) rfl ?_
  have L4 : ∀ (k_4 : Nat) (c0 : Int) (p0 : Int), (0 ≤ p0 ∧ p0 ≤ n + 1) → (c0 = cnt (bfb Pt m X n) p0) → (n + 1 - p0).toNat = k_4 → xG P0 l E0 rm_M_before S0 M0 A0 B0 T0 C0 QQ 4 D vwCl AA 0 0 [cO y 5 [.int (iI t), .ref b1, .int (iI n), .ref b2, .ref b3, .int (iI m), .ref b4, .ref b5, .ref b6, .ref b7], cR b2 cA 96 f2, cR b4 cA 96 f4] 4 [(2, .int (iI p0)), (1, .int (iI c0)), (0, .ref y)] [] := by
    refine x_ind (fun k_4 ih_4 c0 p0 h1 h2 hk_4 => ?_)
    refine g_iload_n XX d_MO_before_4 rfl 0 rfl ?_
    refine g_aload_n XX d_MO_before_5 rfl 2 rfl ?_
    refine g_get (C := R_MO) (T := T_MO) (N := 10) XX (tmw win0_MO) 0 rfl rfl 2 (by decide) (tm kw_119) rfl rfl d_MO_before_6 ?_
    refine g_icmp_gt (tgt := 68) XX d_MO_before_9 (by decide) ⟨by omega, by omega⟩ ⟨by omega, by omega⟩ (fun h9 => ?_) (fun h9 => ?_)
    · -- 9: yes
      refine g_iload_n XX d_MO_before_68 rfl 1 rfl ?_
      exact ret _ _ _ _ [cO y 5 [.int (iI t), .ref b1, .int (iI n), .ref b2, .ref b3, .int (iI m), .ref b4, .ref b5, .ref b6, .ref b7], cR b2 cA 96 f2, cR b4 cA 96 f4] [0, 1, 2] d_MO_before_69 (by decide) rfl (⟨by rw [h2, show p0 = n + 1 by omega], rfl⟩)
    · -- 9: no
      refine g_aload_n XX d_MO_before_12 rfl 2 rfl ?_
      refine g_iload_n XX d_MO_before_13 rfl 0 rfl ?_
      refine g_iconst XX d_MO_before_14 ?_
      refine g_calli (As := [.int (iI p0), .int (iI 0)]) (st := []) (wr := []) XX (c_M_fits l D cA y b1 b2 b3 b4 b5 b6 b7 f2 X f4 Pt t n m p0 0 (by first | assumption | omega) (by first | assumption | omega) (by first | assumption | omega) (by first | assumption | omega) (by first | assumption | omega) (by first | assumption | omega) (by first | assumption | omega)) (x_cw 2 XX.2.2.2.2.1 (gi kw_142) rfl rfl (tm kw_123) (tm kw_143) (tm kw_144) (tm kw_145) ⟨by decide +kernel, by decide +kernel, by decide +kernel⟩ ⟨by decide, by decide⟩) [0, 1, 2] [] rfl rfl (by decide) (by decide) (by decide) 0 5 rfl rfl rfl rfl (Nat.le_of_ble_eq_true rfl) d_MO_before_15 ⟨by decide, by decide⟩ (fun r_ w_ hq => ?_)
      obtain ⟨rfl, rfl⟩ := hq
      show xG P0 l E0 rm_M_before S0 M0 A0 B0 T0 C0 QQ 4 D vwCl AA 0 0 [cO y 5 [.int (iI t), .ref b1, .int (iI n), .ref b2, .ref b3, .int (iI m), .ref b4, .ref b5, .ref b6, .ref b7], cR b2 cA 96 f2, cR b4 cA 96 f4] 18 [(2, .int (iI p0)), (1, .int (iI c0)), (0, .ref y)] [.int (iI (al Pt m X n 0 p0))]
      refine g_istore_n (lv' := [(3, .int (iI (al Pt m X n 0 p0))), (2, .int (iI p0)), (1, .int (iI c0)), (0, .ref y)]) XX d_MO_before_18 rfl (by decide) rfl ?_
      have g := al_rng (f := Pt) (n := m) (g := X) (m := n) (p := 0) (q := p0) (by omega) (by omega)
      refine g_iload_n XX d_MO_before_19 rfl 2 rfl ?_
      refine g_iload_n XX d_MO_before_20 rfl 0 rfl ?_
      refine g_aload_n XX d_MO_before_21 rfl 3 rfl ?_
      refine g_get (C := R_MO) (T := T_MO) (N := 10) XX (tmw win0_MO) 0 rfl rfl 5 (by decide) (tm kw_141) rfl rfl d_MO_before_22 ?_
      refine g_icmp_ge (tgt := 59) XX d_MO_before_25 (by decide) ⟨by omega, by omega⟩ ⟨by omega, by omega⟩ (fun h25 => ?_) (fun h25 => ?_)
      · -- 25: yes
        have hz : bfb Pt m X n p0 = false := by simp only [bfb, decide_eq_false_iff_not]; omega
        refine g_iconst XX d_MO_before_59 ?_
        refine g_iadd XX d_MO_before_60 ?_
        refine g_istore_n (lv' := [(1, .int (iI (c0 + 0))), (3, .int (iI (al Pt m X n 0 p0))), (2, .int (iI p0)), (0, .ref y)]) XX d_MO_before_61 rfl (by decide) rfl ?_
        refine g_iinc (lv' := [(2, .int (iI (p0 + 1))), (1, .int (iI (c0 + 0))), (3, .int (iI (al Pt m X n 0 p0))), (0, .ref y)]) XX d_MO_before_62 2 rfl (by decide) rfl ?_
        refine g_goto (tgt := 4) XX d_MO_before_65 (by decide) ?_
        refine g_lv (lv' := [(2, .int (iI (p0 + 1))), (1, .int (iI (c0 + 0))), (0, .ref y)]) [0, 1, 3] rfl ?_
        exact ih_4 _ (by omega) (c0 + 0) (p0 + 1) (by omega) (by first | (rw [h2, cnt_y (by omega) hz]; done) | (rw [cnt_n (by omega) hz, Int.add_zero]; exact h2)) rfl
      · -- 25: no
        refine g_iload_n XX d_MO_before_28 rfl 1 rfl ?_
        refine g_iload_n XX d_MO_before_29 rfl 0 rfl ?_
        refine g_iadd XX d_MO_before_30 ?_
        refine g_aload_n XX d_MO_before_31 rfl 3 rfl ?_
        refine g_get (C := R_MO) (T := T_MO) (N := 10) XX (tmw win0_MO) 0 rfl rfl 2 (by decide) (tm kw_119) rfl rfl d_MO_before_32 ?_
        refine g_icmp_eq (tgt := 55) XX d_MO_before_35 (by decide) ⟨by omega, by omega⟩ ⟨by omega, by omega⟩ (fun h35 => ?_) (fun h35 => ?_)
        · -- 35: yes
          have hz : bfb Pt m X n p0 = true := by simp only [bfb, decide_eq_true_eq]; omega
          refine g_iconst XX d_MO_before_55 ?_
          refine g_goto (tgt := 60) XX d_MO_before_56 (by decide) ?_
          refine g_iadd XX d_MO_before_60 ?_
          refine g_istore_n (lv' := [(1, .int (iI (c0 + 1))), (3, .int (iI (al Pt m X n 0 p0))), (2, .int (iI p0)), (0, .ref y)]) XX d_MO_before_61 rfl (by decide) rfl ?_
          refine g_iinc (lv' := [(2, .int (iI (p0 + 1))), (1, .int (iI (c0 + 1))), (3, .int (iI (al Pt m X n 0 p0))), (0, .ref y)]) XX d_MO_before_62 2 rfl (by decide) rfl ?_
          refine g_goto (tgt := 4) XX d_MO_before_65 (by decide) ?_
          refine g_lv (lv' := [(2, .int (iI (p0 + 1))), (1, .int (iI (c0 + 1))), (0, .ref y)]) [0, 1, 3] rfl ?_
          exact ih_4 _ (by omega) (c0 + 1) (p0 + 1) (by omega) (by first | (rw [h2, cnt_y (by omega) hz]; done) | (rw [cnt_n (by omega) hz, Int.add_zero]; exact h2)) rfl
        · -- 35: no
          refine g_aload_n XX d_MO_before_38 rfl 3 rfl ?_
          refine g_get (C := R_MO) (T := T_MO) (N := 10) XX (tmw win0_MO) 0 rfl rfl 3 (by decide) (tm kw_111) rfl rfl d_MO_before_39 ?_
          refine g_iload_n XX d_MO_before_42 rfl 1 rfl ?_
          refine g_iload_n XX d_MO_before_43 rfl 0 rfl ?_
          refine g_iadd XX d_MO_before_44 ?_
          refine g_iald XX 1 0 rfl rfl ⟨by omega, by omega, by decide⟩ d_MO_before_45 ?_
          refine g_aload_n XX d_MO_before_46 rfl 3 rfl ?_
          refine g_get (C := R_MO) (T := T_MO) (N := 10) XX (tmw win0_MO) 0 rfl rfl 6 (by decide) (tm kw_113) rfl rfl d_MO_before_47 ?_
          refine g_iload_n XX d_MO_before_50 rfl 0 rfl ?_
          refine g_iald XX 2 0 rfl rfl ⟨by omega, by omega, by decide⟩ d_MO_before_51 ?_
          have e1 := hfX (p0 + al Pt m X n 0 p0) (by omega) (by omega)
          have e2 := hfP (al Pt m X n 0 p0) (by omega) (by omega)
          have bb1 := hbX (p0 + al Pt m X n 0 p0) (by omega) (by omega)
          have bb2 := hbP (al Pt m X n 0 p0) (by omega) (by omega)
          refine g_icmp_ge (tgt := 59) XX d_MO_before_52 (by decide) ⟨by omega, by omega⟩ ⟨by omega, by omega⟩ (fun h52 => ?_) (fun h52 => ?_)
          · -- 52: yes
            have hz : bfb Pt m X n p0 = false := by simp only [bfb, decide_eq_false_iff_not]; omega
            refine g_iconst XX d_MO_before_59 ?_
            refine g_iadd XX d_MO_before_60 ?_
            refine g_istore_n (lv' := [(1, .int (iI (c0 + 0))), (3, .int (iI (al Pt m X n 0 p0))), (2, .int (iI p0)), (0, .ref y)]) XX d_MO_before_61 rfl (by decide) rfl ?_
            refine g_iinc (lv' := [(2, .int (iI (p0 + 1))), (1, .int (iI (c0 + 0))), (3, .int (iI (al Pt m X n 0 p0))), (0, .ref y)]) XX d_MO_before_62 2 rfl (by decide) rfl ?_
            refine g_goto (tgt := 4) XX d_MO_before_65 (by decide) ?_
            refine g_lv (lv' := [(2, .int (iI (p0 + 1))), (1, .int (iI (c0 + 0))), (0, .ref y)]) [0, 1, 3] rfl ?_
            exact ih_4 _ (by omega) (c0 + 0) (p0 + 1) (by omega) (by first | (rw [h2, cnt_y (by omega) hz]; done) | (rw [cnt_n (by omega) hz, Int.add_zero]; exact h2)) rfl
          · -- 52: no
            have hz : bfb Pt m X n p0 = true := by simp only [bfb, decide_eq_true_eq]; omega
            refine g_iconst XX d_MO_before_55 ?_
            refine g_goto (tgt := 60) XX d_MO_before_56 (by decide) ?_
            refine g_iadd XX d_MO_before_60 ?_
            refine g_istore_n (lv' := [(1, .int (iI (c0 + 1))), (3, .int (iI (al Pt m X n 0 p0))), (2, .int (iI p0)), (0, .ref y)]) XX d_MO_before_61 rfl (by decide) rfl ?_
            refine g_iinc (lv' := [(2, .int (iI (p0 + 1))), (1, .int (iI (c0 + 1))), (3, .int (iI (al Pt m X n 0 p0))), (0, .ref y)]) XX d_MO_before_62 2 rfl (by decide) rfl ?_
            refine g_goto (tgt := 4) XX d_MO_before_65 (by decide) ?_
            refine g_lv (lv' := [(2, .int (iI (p0 + 1))), (1, .int (iI (c0 + 1))), (0, .ref y)]) [0, 1, 3] rfl ?_
            exact ih_4 _ (by omega) (c0 + 1) (p0 + 1) (by omega) (by first | (rw [h2, cnt_y (by omega) hz]; done) | (rw [cnt_n (by omega) hz, Int.add_zero]; exact h2)) rfl
  exact L4 _ 0 0 (by omega) ((cnt_0 (by omega)).symm) rfl
abbrev rm_M_hit : Room := { frames := 1, cells := 0, slots := 0, locals := 23 }
set_option maxHeartbeats 4000000 in
set_option maxRecDepth 100000 in
theorem c_M_hit (l : Launch) (D : va_G) (cA : ClassId) (y b1 b2 b3 b4 b5 b6 b7 : Nat) (f2 X f4 Pt : Int → Int) (t n m i : Int) (hn : 0 ≤ n ∧ n ≤ 96) (hm : 0 ≤ m ∧ m ≤ 96) (hfX : ag f2 X n) (hbX : bt8 X n) (hfP : ag f4 Pt m) (hbP : bt8 Pt m) (hi : -2147483648 ≤ i ∧ i < 2147483648) : xM l y_MO_hit w_MO_hit rm_M_hit D vwCl [(cA, .int)] [.ref y, .int (iI i)] [cO y 5 [.int (iI t), .ref b1, .int (iI n), .ref b2, .ref b3, .int (iI m), .ref b4, .ref b5, .ref b6, .ref b7], cR b2 cA 96 f2, cR b4 cA 96 f4] (fun r w => r = iI (htr Pt m X n i) ∧ w = [cO y 5 [.int (iI t), .ref b1, .int (iI n), .ref b2, .ref b3, .int (iI m), .ref b4, .ref b5, .ref b6, .ref b7], cR b2 cA 96 f2, cR b4 cA 96 f4]) 0 0 := by
  refine xM.ofI (by decide) rfl (Nat.le_of_ble_eq_true rfl) ?_
  intro P0 E0 S0 M0 A0 B0 T0 C0 AA QQ XX hnm ret
  refine g_iload_n XX d_MO_hit_0 rfl 1 rfl ?_
  refine g_istore_n (lv' := [(2, .int (iI i)), (0, .ref y), (1, .int (iI i))]) XX d_MO_hit_1 rfl (by decide) rfl ?_
  refine g_iconst XX d_MO_hit_2 ?_
  refine g_istore_n (lv' := [(3, .int (iI 0)), (2, .int (iI i)), (0, .ref y), (1, .int (iI i))]) XX d_MO_hit_3 rfl (by decide) rfl ?_
  have L4 : ∀ (k_4 : Nat) (l0 : Int) (p0 : Int), (0 ≤ p0 ∧ p0 ≤ n + 1) → (l0 = i - cnt (htb Pt m X n) p0) → (∀ j, 0 ≤ j → j < p0 → ¬ (htb Pt m X n j = true ∧ cnt (htb Pt m X n) j = i)) → (n + 1 - p0).toNat = k_4 → xG P0 l E0 rm_M_hit S0 M0 A0 B0 T0 C0 QQ 4 D vwCl AA 0 0 [cO y 5 [.int (iI t), .ref b1, .int (iI n), .ref b2, .ref b3, .int (iI m), .ref b4, .ref b5, .ref b6, .ref b7], cR b2 cA 96 f2, cR b4 cA 96 f4] 4 [(3, .int (iI p0)), (2, .int (iI l0)), (0, .ref y), (1, .int (iI i))] [] := by
    refine x_ind (fun k_4 ih_4 l0 p0 h1 h2 h3 hk_4 => ?_)
    refine g_iload_n XX d_MO_hit_4 rfl 0 rfl ?_
    refine g_aload_n XX d_MO_hit_5 rfl 2 rfl ?_
    refine g_get (C := R_MO) (T := T_MO) (N := 10) XX (tmw win0_MO) 0 rfl rfl 2 (by decide) (tm kw_119) rfl rfl d_MO_hit_6 ?_
    refine g_icmp_gt (tgt := 44) XX d_MO_hit_9 (by decide) ⟨by omega, by omega⟩ ⟨by omega, by omega⟩ (fun h9 => ?_) (fun h9 => ?_)
    · -- 9: yes
      refine g_iconst XX d_MO_hit_44 ?_
      exact ret _ _ _ _ [cO y 5 [.int (iI t), .ref b1, .int (iI n), .ref b2, .ref b3, .int (iI m), .ref b4, .ref b5, .ref b6, .ref b7], cR b2 cA 96 f2, cR b4 cA 96 f4] [0, 1, 2] d_MO_hit_45 (by decide) rfl (⟨by first | rw [htr_no (by omega) (fun j a b => h3 j a (by omega))] | rw [htr_no (by omega) (fun j a b z => by have y := (cnt_rng (P := htb Pt m X n) (n := j) a).1; have y2 := z.2; omega)], rfl⟩)
    · -- 9: no
      refine g_iload_n XX d_MO_hit_12 rfl 3 rfl ?_
      refine g_if_lt (tgt := 44) XX d_MO_hit_13 (by decide) ⟨by omega, by omega⟩ (fun h13 => ?_) (fun h13 => ?_)
      · -- 13: yes
        refine g_iconst XX d_MO_hit_44 ?_
        exact ret _ _ _ _ [cO y 5 [.int (iI t), .ref b1, .int (iI n), .ref b2, .ref b3, .int (iI m), .ref b4, .ref b5, .ref b6, .ref b7], cR b2 cA 96 f2, cR b4 cA 96 f4] [0, 1, 2] d_MO_hit_45 (by decide) rfl (⟨by first | rw [htr_no (by omega) (fun j a b => h3 j a (by omega))] | rw [htr_no (by omega) (fun j a b z => by have y := (cnt_rng (P := htb Pt m X n) (n := j) a).1; have y2 := z.2; omega)], rfl⟩)
      · -- 13: no
        refine g_aload_n XX d_MO_hit_16 rfl 2 rfl ?_
        refine g_iload_n XX d_MO_hit_17 rfl 0 rfl ?_
        refine g_iconst XX d_MO_hit_18 ?_
        refine g_calli (As := [.int (iI p0), .int (iI 0)]) (st := []) (wr := []) XX (c_M_fits l D cA y b1 b2 b3 b4 b5 b6 b7 f2 X f4 Pt t n m p0 0 (by first | assumption | omega) (by first | assumption | omega) (by first | assumption | omega) (by first | assumption | omega) (by first | assumption | omega) (by first | assumption | omega) (by first | assumption | omega)) (x_cw 2 XX.2.2.2.2.1 (gi kw_142) rfl rfl (tm kw_123) (tm kw_143) (tm kw_144) (tm kw_145) ⟨by decide +kernel, by decide +kernel, by decide +kernel⟩ ⟨by decide, by decide⟩) [0, 1, 2] [] rfl rfl (by decide) (by decide) (by decide) 0 5 rfl rfl rfl rfl (Nat.le_of_ble_eq_true rfl) d_MO_hit_19 ⟨by decide, by decide⟩ (fun r_ w_ hq => ?_)
        obtain ⟨rfl, rfl⟩ := hq
        show xG P0 l E0 rm_M_hit S0 M0 A0 B0 T0 C0 QQ 4 D vwCl AA 0 0 [cO y 5 [.int (iI t), .ref b1, .int (iI n), .ref b2, .ref b3, .int (iI m), .ref b4, .ref b5, .ref b6, .ref b7], cR b2 cA 96 f2, cR b4 cA 96 f4] 22 [(3, .int (iI p0)), (2, .int (iI l0)), (0, .ref y), (1, .int (iI i))] [.int (iI (al Pt m X n 0 p0))]
        refine g_aload_n XX d_MO_hit_22 rfl 2 rfl ?_
        refine g_get (C := R_MO) (T := T_MO) (N := 10) XX (tmw win0_MO) 0 rfl rfl 5 (by decide) (tm kw_141) rfl rfl d_MO_hit_23 ?_
        have g := al_rng (f := Pt) (n := m) (g := X) (m := n) (p := 0) (q := p0) (by omega) (by omega)
        refine g_icmp_ne (tgt := 38) XX d_MO_hit_26 (by decide) ⟨by omega, by omega⟩ ⟨by omega, by omega⟩ (fun h26 => ?_) (fun h26 => ?_)
        · -- 26: yes
          refine g_iinc (lv' := [(3, .int (iI (p0 + 1))), (2, .int (iI l0)), (0, .ref y), (1, .int (iI i))]) XX d_MO_hit_38 0 rfl (by decide) rfl ?_
          refine g_goto (tgt := 4) XX d_MO_hit_41 (by decide) ?_
          exact ih_4 _ (by omega) l0 (p0 + 1) (by omega) (by first | (rw [cnt_y (by omega) hz]; omega) | (rw [cnt_n (by omega) (show htb Pt m X n p0 = false by simp only [htb, decide_eq_false_iff_not]; omega)]; exact h2)) (by first | exact all_s h3 (fun z => h30 (by rw [h2, z.2]; omega)) | exact all_s h3 (fun z => absurd z.1 (by rw [show htb Pt m X n p0 = false by simp only [htb, decide_eq_false_iff_not]; omega]; decide))) rfl
        · -- 26: no
          have hz : htb Pt m X n p0 = true := by simp only [htb, decide_eq_true_eq]; omega
          have q := cnt_rng (P := htb Pt m X n) (n := p0) (by omega)
          refine g_iload_n XX d_MO_hit_29 rfl 1 rfl ?_
          refine g_if_ne (tgt := 35) XX d_MO_hit_30 (by decide) ⟨by omega, by omega⟩ (fun h30 => ?_) (fun h30 => ?_)
          · -- 30: yes
            refine g_iinc (lv' := [(2, .int (iI (l0 + (-1)))), (3, .int (iI p0)), (0, .ref y), (1, .int (iI i))]) XX d_MO_hit_35 1 rfl (by decide) rfl ?_
            refine g_iinc (lv' := [(3, .int (iI (p0 + 1))), (2, .int (iI (l0 + (-1)))), (0, .ref y), (1, .int (iI i))]) XX d_MO_hit_38 1 rfl (by decide) rfl ?_
            refine g_goto (tgt := 4) XX d_MO_hit_41 (by decide) ?_
            exact ih_4 _ (by omega) (l0 + (-1)) (p0 + 1) (by omega) (by first | (rw [cnt_y (by omega) hz]; omega) | (rw [cnt_n (by omega) (show htb Pt m X n p0 = false by simp only [htb, decide_eq_false_iff_not]; omega)]; exact h2)) (by first | exact all_s h3 (fun z => h30 (by rw [h2, z.2]; omega)) | exact all_s h3 (fun z => absurd z.1 (by rw [show htb Pt m X n p0 = false by simp only [htb, decide_eq_false_iff_not]; omega]; decide))) rfl
          · -- 30: no
            refine g_iload_n XX d_MO_hit_33 rfl 0 rfl ?_
            exact ret _ _ _ _ [cO y 5 [.int (iI t), .ref b1, .int (iI n), .ref b2, .ref b3, .int (iI m), .ref b4, .ref b5, .ref b6, .ref b7], cR b2 cA 96 f2, cR b4 cA 96 f4] [0, 1, 2] d_MO_hit_34 (by decide) rfl (⟨by rw [htr_at (by omega) (by omega) h3 hz (by omega)], rfl⟩)
  exact L4 _ i 0 (by omega) (by rw [cnt_0 (by omega)]; omega) (fun j a b => by omega) rfl
abbrev rm_M_match : Room := { frames := 1, cells := 0, slots := 0, locals := 23 }
set_option maxHeartbeats 4000000 in
set_option maxRecDepth 100000 in
theorem c_M_match (l : Launch) (D : va_G) (cA : ClassId) (y b1 b2 b3 b4 b5 b6 b7 : Nat) (f2 X f4 Pt : Int → Int) (t n m i : Int) (hn : 0 ≤ n ∧ n ≤ 96) (hm : 0 ≤ m ∧ m ≤ 96) (hfX : ag f2 X n) (hbX : bt8 X n) (hfP : ag f4 Pt m) (hbP : bt8 Pt m) (hi : -2147483648 ≤ i ∧ i < 2147483648) : xM l y_MO_match w_MO_match rm_M_match D vwCl [(cA, .int)] [.ref y, .int (iI i)] [cO y 5 [.int (iI t), .ref b1, .int (iI n), .ref b2, .ref b3, .int (iI m), .ref b4, .ref b5, .ref b6, .ref b7], cR b2 cA 96 f2, cR b4 cA 96 f4] (fun r w => r = iI (if 0 ≤ i ∧ i ≤ m then mx (fun q => al Pt m X n i q) (n + 1) else -1) ∧ w = [cO y 5 [.int (iI t), .ref b1, .int (iI n), .ref b2, .ref b3, .int (iI m), .ref b4, .ref b5, .ref b6, .ref b7], cR b2 cA 96 f2, cR b4 cA 96 f4]) 0 0 := by
  refine xM.ofI (by decide) rfl (Nat.le_of_ble_eq_true rfl) ?_
  intro P0 E0 S0 M0 A0 B0 T0 C0 AA QQ XX hnm ret
  refine g_iload_n XX d_MO_match_0 rfl 1 rfl ?_
  refine g_if_lt (tgt := 12) XX d_MO_match_1 (by decide) ⟨by omega, by omega⟩ (fun h1 => ?_) (fun h1 => ?_)
  · -- 1: yes
    have hz : ¬ (0 ≤ i ∧ i ≤ m) := by omega
    refine g_iconst XX d_MO_match_12 ?_
    exact ret _ _ _ _ [cO y 5 [.int (iI t), .ref b1, .int (iI n), .ref b2, .ref b3, .int (iI m), .ref b4, .ref b5, .ref b6, .ref b7], cR b2 cA 96 f2, cR b4 cA 96 f4] [0, 1, 2] d_MO_match_13 (by decide) rfl (⟨by rw [if_neg hz], rfl⟩)
  · -- 1: no
    refine g_iload_n XX d_MO_match_4 rfl 1 rfl ?_
    refine g_aload_n XX d_MO_match_5 rfl 0 rfl ?_
    refine g_get (C := R_MO) (T := T_MO) (N := 10) XX (tmw win0_MO) 0 rfl rfl 5 (by decide) (tm kw_141) rfl rfl d_MO_match_6 ?_
    refine g_icmp_le (tgt := 14) XX d_MO_match_9 (by decide) ⟨by omega, by omega⟩ ⟨by omega, by omega⟩ (fun h9 => ?_) (fun h9 => ?_)
    · -- 9: yes
      have hz : 0 ≤ i ∧ i ≤ m := by omega
      refine g_iconst XX d_MO_match_14 ?_
      refine g_istore_n (lv' := [(2, .int (iI 0)), (0, .ref y), (1, .int (iI i))]) XX d_MO_match_15 rfl (by decide) rfl ?_
      refine g_iconst XX d_MO_match_16 ?_
      refine g_istore_n (lv' := [(3, .int (iI 0)), (2, .int (iI 0)), (0, .ref y), (1, .int (iI i))]) XX d_MO_match_17 rfl (by decide) rfl ?_
      have L18 : ∀ (k_18 : Nat) (b0 : Int) (p0 : Int), (0 ≤ p0 ∧ p0 ≤ n + 1) → (b0 = mx (fun q => al Pt m X n i q) p0) → (n + 1 - p0).toNat = k_18 → xG P0 l E0 rm_M_match S0 M0 A0 B0 T0 C0 QQ 5 D vwCl AA 0 0 [cO y 5 [.int (iI t), .ref b1, .int (iI n), .ref b2, .ref b3, .int (iI m), .ref b4, .ref b5, .ref b6, .ref b7], cR b2 cA 96 f2, cR b4 cA 96 f4] 18 [(3, .int (iI p0)), (2, .int (iI b0)), (0, .ref y), (1, .int (iI i))] [] := by
        refine x_ind (fun k_18 ih_18 b0 p0 h1 h2 hk_18 => ?_)
        refine g_iload_n XX d_MO_match_18 rfl 0 rfl ?_
        refine g_aload_n XX d_MO_match_19 rfl 2 rfl ?_
        refine g_get (C := R_MO) (T := T_MO) (N := 10) XX (tmw win0_MO) 0 rfl rfl 2 (by decide) (tm kw_119) rfl rfl d_MO_match_20 ?_
        refine g_icmp_gt (tgt := 53) XX d_MO_match_23 (by decide) ⟨by omega, by omega⟩ ⟨by omega, by omega⟩ (fun h23 => ?_) (fun h23 => ?_)
        · -- 23: yes
          refine g_iload_n XX d_MO_match_53 rfl 1 rfl ?_
          exact ret _ _ _ _ [cO y 5 [.int (iI t), .ref b1, .int (iI n), .ref b2, .ref b3, .int (iI m), .ref b4, .ref b5, .ref b6, .ref b7], cR b2 cA 96 f2, cR b4 cA 96 f4] [0, 1, 2] d_MO_match_54 (by decide) rfl (⟨by rw [if_pos hz, h2, show p0 = n + 1 by omega], rfl⟩)
        · -- 23: no
          refine g_aload_n XX d_MO_match_26 rfl 2 rfl ?_
          refine g_iload_n XX d_MO_match_27 rfl 0 rfl ?_
          refine g_iload_n XX d_MO_match_28 rfl 3 rfl ?_
          refine g_calli (As := [.int (iI p0), .int (iI i)]) (st := []) (wr := []) XX (c_M_fits l D cA y b1 b2 b3 b4 b5 b6 b7 f2 X f4 Pt t n m p0 i (by first | assumption | omega) (by first | assumption | omega) (by first | assumption | omega) (by first | assumption | omega) (by first | assumption | omega) (by first | assumption | omega) (by first | assumption | omega)) (x_cw 2 XX.2.2.2.2.1 (gi kw_142) rfl rfl (tm kw_123) (tm kw_143) (tm kw_144) (tm kw_145) ⟨by decide +kernel, by decide +kernel, by decide +kernel⟩ ⟨by decide, by decide⟩) [0, 1, 2] [] rfl rfl (by decide) (by decide) (by decide) 0 5 rfl rfl rfl rfl (Nat.le_of_ble_eq_true rfl) d_MO_match_29 ⟨by decide, by decide⟩ (fun r_ w_ hq => ?_)
          obtain ⟨rfl, rfl⟩ := hq
          show xG P0 l E0 rm_M_match S0 M0 A0 B0 T0 C0 QQ 5 D vwCl AA 0 0 [cO y 5 [.int (iI t), .ref b1, .int (iI n), .ref b2, .ref b3, .int (iI m), .ref b4, .ref b5, .ref b6, .ref b7], cR b2 cA 96 f2, cR b4 cA 96 f4] 32 [(3, .int (iI p0)), (2, .int (iI b0)), (0, .ref y), (1, .int (iI i))] [.int (iI (al Pt m X n i p0))]
          refine g_istore (lv' := [(4, .int (iI (al Pt m X n i p0))), (3, .int (iI p0)), (2, .int (iI b0)), (0, .ref y), (1, .int (iI i))]) XX d_MO_match_32 (by decide) rfl ?_
          have q := mx_rng (F := fun q => al Pt m X n i q) (n := n + 1) (B := 96) (by omega) (fun j a b => by have := al_rng (f := Pt) (n := m) (g := X) (m := n) (p := i) (q := j) (by omega) (by omega); show al Pt m X n i j ≤ 96; omega) p0 (by omega) (by omega)
          have g := al_rng (f := Pt) (n := m) (g := X) (m := n) (p := i) (q := p0) (by omega) (by omega)
          refine g_iload XX d_MO_match_34 0 rfl ?_
          refine g_iload_n XX d_MO_match_36 rfl 2 rfl ?_
          refine g_icmp_le (tgt := 45) XX d_MO_match_37 (by decide) ⟨by omega, by omega⟩ ⟨by omega, by omega⟩ (fun h37 => ?_) (fun h37 => ?_)
          · -- 37: yes
            refine g_iload_n XX d_MO_match_45 rfl 2 rfl ?_
            refine g_istore_n (lv' := [(2, .int (iI b0)), (4, .int (iI (al Pt m X n i p0))), (3, .int (iI p0)), (0, .ref y), (1, .int (iI i))]) XX d_MO_match_46 rfl (by decide) rfl ?_
            refine g_iinc (lv' := [(3, .int (iI (p0 + 1))), (2, .int (iI b0)), (4, .int (iI (al Pt m X n i p0))), (0, .ref y), (1, .int (iI i))]) XX d_MO_match_47 2 rfl (by decide) rfl ?_
            refine g_goto (tgt := 18) XX d_MO_match_50 (by decide) ?_
            refine g_lv (lv' := [(3, .int (iI (p0 + 1))), (2, .int (iI b0)), (0, .ref y), (1, .int (iI i))]) [0, 1, 3, 4] rfl ?_
            exact ih_18 _ (by omega) b0 (p0 + 1) (by omega) (by rw [mx_s (by omega), ← h2]; show _ = max b0 (al Pt m X n i p0); omega) rfl
          · -- 37: no
            refine g_iload XX d_MO_match_40 0 rfl ?_
            refine g_goto (tgt := 46) XX d_MO_match_42 (by decide) ?_
            refine g_istore_n (lv' := [(2, .int (iI (al Pt m X n i p0))), (4, .int (iI (al Pt m X n i p0))), (3, .int (iI p0)), (0, .ref y), (1, .int (iI i))]) XX d_MO_match_46 rfl (by decide) rfl ?_
            refine g_iinc (lv' := [(3, .int (iI (p0 + 1))), (2, .int (iI (al Pt m X n i p0))), (4, .int (iI (al Pt m X n i p0))), (0, .ref y), (1, .int (iI i))]) XX d_MO_match_47 2 rfl (by decide) rfl ?_
            refine g_goto (tgt := 18) XX d_MO_match_50 (by decide) ?_
            refine g_lv (lv' := [(3, .int (iI (p0 + 1))), (2, .int (iI (al Pt m X n i p0))), (0, .ref y), (1, .int (iI i))]) [0, 1, 3, 4] rfl ?_
            exact ih_18 _ (by omega) (al Pt m X n i p0) (p0 + 1) (by omega) (by rw [mx_s (by omega), ← h2]; show _ = max b0 (al Pt m X n i p0); omega) rfl
      exact L18 _ 0 0 (by omega) (rfl) rfl
    · -- 9: no
      have hz : ¬ (0 ≤ i ∧ i ≤ m) := by omega
      refine g_iconst XX d_MO_match_12 ?_
      exact ret _ _ _ _ [cO y 5 [.int (iI t), .ref b1, .int (iI n), .ref b2, .ref b3, .int (iI m), .ref b4, .ref b5, .ref b6, .ref b7], cR b2 cA 96 f2, cR b4 cA 96 f4] [0, 1, 2] d_MO_match_13 (by decide) rfl (⟨by rw [if_neg hz], rfl⟩)
