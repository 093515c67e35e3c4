theorem bv8 (x : BitVec 64) (k : Nat) (hk : k ≤ 56) : ((x.sshiftRight k) &&& 255#64).signExtend 32 = ((x >>> k).signExtend 32) &&& 255#32 := by
  apply BitVec.eq_of_getLsbD_eq
  intro j hj
  have h255 : ∀ j, j < 32 → (255#64).getLsbD j = (255#32).getLsbD j := by decide
  have e2 : j < 64 := by omega
  by_cases h8 : j < 8
  · have e1 : k + j < 64 := by omega
    simp only [BitVec.getLsbD_signExtend, BitVec.getLsbD_and, BitVec.getLsbD_sshiftRight, BitVec.getLsbD_ushiftRight, hj, h255 j hj, e1, e2, if_true, decide_true, Bool.true_and]
    simp [show ¬ 64 ≤ j by omega]
  · have h0 : (255#32).getLsbD j = false := by
      have : ∀ j, j < 32 → ¬ j < 8 → (255#32).getLsbD j = false := by decide
      exact this j hj h8
    simp only [BitVec.getLsbD_signExtend, BitVec.getLsbD_and, hj, h255 j hj, h0, e2, if_true, decide_true, Bool.true_and, Bool.and_false]
theorem tb_mod (bits : Int64) (i : Int) (h : 0 ≤ i ∧ i ≤ 7) : ((bits >>> ((iI (8 * i)).toInt64 &&& 63)) &&& 255).toInt32 = iI (tb bits i) := by
  rw [← tb_cls]
  have hi : i = 0 ∨ i = 1 ∨ i = 2 ∨ i = 3 ∨ i = 4 ∨ i = 5 ∨ i = 6 ∨ i = 7 := by omega
  apply Int32.toBitVec_inj.mp
  rcases hi with rfl | rfl | rfl | rfl | rfl | rfl | rfl | rfl
  · exact bv8 bits.toBitVec 0 (by decide)
  · exact bv8 bits.toBitVec 8 (by decide)
  · exact bv8 bits.toBitVec 16 (by decide)
  · exact bv8 bits.toBitVec 24 (by decide)
  · exact bv8 bits.toBitVec 32 (by decide)
  · exact bv8 bits.toBitVec 40 (by decide)
  · exact bv8 bits.toBitVec 48 (by decide)
  · exact bv8 bits.toBitVec 56 (by decide)
theorem rkf_0 {X : Int → Int} {n i : Int} : (-1 : Int) = if 0 ≤ i ∧ i ≤ n ∧ rk X n i < 0 then rk X n i else -1 := by
  rw [if_neg (fun z => by have := rk_rng (X := X) z.1 z.2.1; omega)]
theorem rkf_put {X : Int → Int} {n i r : Int} (h0 : 0 ≤ r) (h1 : r ≤ n) (e : og X n r = i) : r = if 0 ≤ i ∧ i ≤ n ∧ rk X n i < r + 1 then rk X n i else -1 := by
  have g := og_rng (X := X) h0 h1
  have q := rk_og (X := X) h0 h1
  rw [e] at g q
  rw [if_pos ⟨g.1, g.2, by omega⟩, q]
theorem rkf_keep {X : Int → Int} {n i r fo : Int} (h0 : 0 ≤ r) (h1 : r ≤ n) (e : og X n r ≠ i) (h : fo = if 0 ≤ i ∧ i ≤ n ∧ rk X n i < r then rk X n i else -1) : fo = if 0 ≤ i ∧ i ≤ n ∧ rk X n i < r + 1 then rk X n i else -1 := by
  by_cases c : 0 ≤ i ∧ i ≤ n ∧ rk X n i < r + 1
  · have hne : rk X n i ≠ r := fun z => e (by rw [← z, og_rk c.1 c.2.1])
    have c2 : 0 ≤ i ∧ i ≤ n ∧ rk X n i < r := ⟨c.1, c.2.1, by omega⟩
    rw [if_pos c2] at h
    rw [if_pos c]; exact h
  · have c2 : ¬ (0 ≤ i ∧ i ≤ n ∧ rk X n i < r) := fun z => c ⟨z.1, z.2.1, by omega⟩
    rw [if_neg c2] at h
    rw [if_neg c]; exact h
theorem rkf_end {X : Int → Int} {n i r fo : Int} (hr : n < r) (h : fo = if 0 ≤ i ∧ i ≤ n ∧ rk X n i < r then rk X n i else -1) : fo = if 0 ≤ i ∧ i ≤ n then rk X n i else -1 := by
  by_cases c : 0 ≤ i ∧ i ≤ n
  · have q := rk_rng (X := X) c.1 c.2
    rw [if_pos ⟨c.1, c.2, by omega⟩] at h
    rw [if_pos c]; exact h
  · rw [if_neg (fun z => c ⟨z.1, z.2.1⟩)] at h
    rw [if_neg c]; exact h
theorem phc_0 {X : Int → Int} {n i : Int} (h : og X n i = 0) : ph (cX X n i) = 256 := by
  simp [cX, h, ph]
theorem phc_1 {X : Int → Int} {n i : Int} (hb : bt8 X n) (h0 : 0 ≤ i) (h1 : i ≤ n) (h : og X n i ≠ 0) : ph (cX X n i) = X (og X n i - 1) := by
  have g := og_rng (X := X) h0 h1
  have b := hb (og X n i - 1) (by omega) (by omega)
  have e : cX X n i = X (og X n i - 1) := if_neg h
  rw [e]
  exact if_neg (by omega)
theorem ph_none {w : Int} (hs : sy w) (h : ph w = 256) : w = -2 := by
  simp only [ph, sy] at *
  split at h <;> omega
theorem ph_some {w : Int} (h : ph w ≠ 256) : ph w = w := by
  simp only [ph] at *
  split at h
  · exact absurd rfl h
  · rename_i z; rw [if_neg z]
theorem ph_c (w : Int) : (w = -2 ∧ ph w = 256) ∨ (w ≠ -2 ∧ ph w = w) := by
  by_cases h : w = -2
  · exact Or.inl ⟨h, if_pos h⟩
  · exact Or.inr ⟨h, if_neg h⟩
theorem ps_c (w : Int) : (w = -2 ∧ ps w = -1) ∨ (w ≠ -2 ∧ ps w = w) := by
  by_cases h : w = -2
  · exact Or.inl ⟨h, if_pos h⟩
  · exact Or.inr ⟨h, if_neg h⟩
theorem cok_val {col : Int → Int} {N k j : Int} (h : cok col N k) (h0 : 0 ≤ j) (h1 : j ≤ N) : col j = -2 ∨ (0 ≤ col j ∧ col j ≤ 255) := by
  by_cases e : j = k
  · rw [e]; exact Or.inl h.2.2.1
  · exact Or.inr (h.2.2.2 j h0 h1 e)
theorem mshift {f g L : Int → Int} {w q : Int} (hf : ag f (fun j => ph (L j)) 257) (d3 : ∀ j, 0 < j → j ≤ q → g j = f (j - 1)) (d4 : ∀ j, q < j → j < 257 → g j = f j) (hq : mpos L w = q) (h0 : 0 ≤ q ∧ q ≤ 256) : ag (iup g 0 (ph w)) (fun j => ph (mnew L w j)) 257 := fun j a b => by
  show iup g 0 (ph w) j = ph (mnew L w j)
  by_cases z : j = 0
  · rw [iup_eq z]; simp [mnew, z]
  · rw [iup_ne z]
    simp only [mnew, if_neg z, hq]
    by_cases c : j ≤ q
    · rw [if_pos c, d3 j (by omega) c]
      exact hf (j - 1) (by omega) (by omega)
    · rw [if_neg c, d4 j (by omega) b]
      exact hf j a b
theorem exs_ag {f g Pt : Int → Int} {m b : Int} (h : exR m b = 0) (hf : ag f Pt m) (d : ∀ j, 0 < j → j ≤ m → g j = f (j - 1)) : ag (iup g 0 b) (exG Pt m b) (m + 1) := fun j a c => by
  rw [exG_ok h]
  by_cases z : j = 0
  · rw [iup_eq z]; simp [z]
  · rw [iup_ne z]
    show g j = if j = 0 then b else Pt (j - 1)
    rw [if_neg z, d j (by omega) (by omega)]
    exact hf (j - 1) (by omega) (by omega)
theorem gvp1 {T : Int → Int} {t i j : Int} (hb : bt8 T t) (h0 : 0 ≤ j) (h1 : j < t) (h : j < i) : T j = ps (gv T i j) := by
  have b := hb j h0 h1
  have e : gv T i j = T j := if_pos h
  rw [e]
  exact (if_neg (by omega)).symm
theorem gvp2 {T : Int → Int} {i j : Int} (h : j = i) : -1 = ps (gv T i j) := by
  simp [gv, h, ps]
theorem gvp3 {T : Int → Int} {t i j : Int} (hb : bt8 T t) (h0 : 0 ≤ i) (h : i < j) (h1 : j ≤ t) : T (j - 1) = ps (gv T i j) := by
  have b := hb (j - 1) (by omega) (by omega)
  have e : gv T i j = T (j - 1) := by
    simp only [gv]
    rw [if_neg (by omega), if_neg (by omega)]
  rw [e]
  exact (if_neg (by omega)).symm
