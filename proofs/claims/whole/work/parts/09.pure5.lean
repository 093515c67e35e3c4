theorem z01 {b : Bool} : iR (if b then 1 else 0) := by cases b <;> exact ⟨by decide, by decide⟩
theorem z01_0 {b : Bool} (h : (if b then (1 : Int) else 0) = 0) : b = false := by cases b <;> simp_all
theorem z01_1 {b : Bool} (h : (if b then (1 : Int) else 0) ≠ 0) : b = true := by cases b <;> simp_all
theorem shb_end {X : Int → Int} {n q : Int} (hq : q < n) : lb X n n q = true := (lb_iff (Int.le_refl n) (by omega)).mpr (LT_end hq)
theorem shb_lt {X : Int → Int} {n p q : Int} (hp : p < n) (hq : q < n) (h : X p < X q) : lb X n p q = true := (lb_iff (by omega) (by omega)).mpr ((LT_ne hp hq (by omega)).mpr h)
theorem shb_gt {X : Int → Int} {n p q : Int} (hp : p < n) (hq : q < n) (h : X q < X p) : lb X n p q = false := by
  have : ¬ lb X n p q = true := fun z => by
    have := (LT_ne hp hq (by omega)).mp ((lb_iff (by omega) (by omega)).mp z)
    omega
  simpa using this
theorem shb_t {X : Int → Int} {n s p q : Int} (hs : 0 ≤ s) (h1 : s ≤ p + 1) (h2 : s ≤ q + 1) (hp : p < n) (hq : q < n) (h : X p = X q) (g : rks X n s (p + 1) < rks X n s (q + 1)) : lb X n p q = true :=
  (lb_iff (by omega) (by omega)).mpr ((LT_step hp hq h).mpr ((rks_iff (by omega) (by omega) hs h1 h2).mp g))
theorem shb_f {X : Int → Int} {n s p q : Int} (hs : 0 ≤ s) (h1 : s ≤ p + 1) (h2 : s ≤ q + 1) (hp : p < n) (hq : q < n) (h : X p = X q) (g : rks X n s (q + 1) ≤ rks X n s (p + 1)) : lb X n p q = false := by
  have : ¬ lb X n p q = true := fun z => by
    have := (rks_iff (by omega) (by omega) hs h1 h2).mpr ((LT_step hp hq h).mp ((lb_iff (by omega) (by omega)).mp z))
    omega
  simpa using this
theorem all_s {P : Int → Prop} {k : Int} (h : ∀ j, 0 ≤ j → j < k → P j) (hk : P k) : ∀ j, 0 ≤ j → j < k + 1 → P j := fun j a b => by
  by_cases e : j = k
  · rw [e]; exact hk
  · exact h j a (by omega)
theorem ag_s {f F : Int → Int} {k x : Int} (h : ag f F k) (hx : x = F k) : ag (iup f k x) F (k + 1) := fun j a b => by
  by_cases e : j = k
  · rw [iup_eq e, hx, e]
  · rw [iup_ne e]; exact h j a (by omega)
theorem ag_0 {f F : Int → Int} {n : Int} (h : n ≤ 0) : ag f F n := fun j a b => by omega
theorem ag_le {f F : Int → Int} {k n : Int} (h : ag f F n) (hk : k ≤ n) : ag f F k := fun j a b => h j a (by omega)
theorem ag_cpy {f g F : Int → Int} {n : Int} (h : ag f F n) : ag (icpy f g 0 0 n) F n := fun j a b => by
  have e : (0 : Int) ≤ j ∧ j < 0 + n := by omega
  have e2 : (0 : Int) + (j - 0) = j := by omega
  simp only [icpy, if_pos e, e2]
  exact h j a b
theorem ras_keep {X : Int → Int} {n s k : Int} {ro : Int → Int} (h : ∀ p, s + 1 ≤ p → p < k → ro p = rks X n s p) (e : ro k = rks X n s k) : ∀ p, s + 1 ≤ p → p < k + 1 → ro p = rks X n s p := fun p a b => by
  by_cases z : p = k
  · rw [z]; exact e
  · exact h p a (by omega)
theorem ras_put {X : Int → Int} {n s k v : Int} {ro : Int → Int} (h : ∀ p, s + 1 ≤ p → p < k → ro p = rks X n s p) (e : v = rks X n s k) : ∀ p, s + 1 ≤ p → p < k + 1 → iup ro k v p = rks X n s p := fun p a b => by
  by_cases z : p = k
  · rw [iup_eq z, z]; exact e
  · rw [iup_ne z]; exact h p a (by omega)
theorem ras_rest {X : Int → Int} {n s k v : Int} {ro : Int → Int} (h : ∀ p, k ≤ p → p ≤ n → ro p = rks X n s p) : ∀ p, k + 1 ≤ p → p ≤ n → iup ro k v p = rks X n s p := fun p a b => by
  rw [iup_ne (by omega)]; exact h p (by omega) b
theorem ord_put {X : Int → Int} {n i r v : Int} {sa cl : Int → Int} (hi : 0 ≤ i ∧ i ≤ n) (hr : r = rk X n i) (hv : v = if i = 0 then -2 else X (i - 1)) (h : ∀ p, 0 ≤ p → p < i → sa (rk X n p) = p ∧ cl (rk X n p) = (if p = 0 then -2 else X (p - 1))) : ∀ p, 0 ≤ p → p < i + 1 → iup sa r i (rk X n p) = p ∧ iup cl r v (rk X n p) = (if p = 0 then -2 else X (p - 1)) := fun p a b => by
  by_cases z : p = i
  · subst z
    rw [iup_eq hr.symm, iup_eq hr.symm]
    exact ⟨rfl, hv⟩
  · have hne : rk X n p ≠ r := fun y => z (rk_inj a (by omega) hi.1 hi.2 (y.trans hr))
    rw [iup_ne hne, iup_ne hne]
    exact h p a (by omega)
theorem ord_end {X : Int → Int} {n : Int} {sa cl : Int → Int} (hn : 0 ≤ n) (h : ∀ p, 0 ≤ p → p < n + 1 → sa (rk X n p) = p ∧ cl (rk X n p) = (if p = 0 then -2 else X (p - 1))) : ag sa (og X n) (n + 1) ∧ ag cl (cX X n) (n + 1) := by
  refine ⟨fun j a b => ?_, fun j a b => ?_⟩
  · obtain ⟨g0, g1⟩ := og_rng (X := X) (n := n) (r := j) a (by omega)
    have := (h _ g0 (by omega)).1
    rwa [rk_og a (by omega)] at this
  · obtain ⟨g0, g1⟩ := og_rng (X := X) (n := n) (r := j) a (by omega)
    have := (h _ g0 (by omega)).2
    rw [rk_og a (by omega)] at this
    rw [this]
    rfl
theorem sy_rng {w : Int} (h : sy w) : -2 ≤ w ∧ w ≤ 255 := by
  rcases h with h | h <;> omega
theorem cnt_y {P : Int → Bool} {n : Int} (h : 0 ≤ n) (hP : P n = true) : cnt P (n + 1) = cnt P n + 1 := by rw [cnt_s h, if_pos hP]
theorem cnt_n {P : Int → Bool} {n : Int} (h : 0 ≤ n) (hP : P n = false) : cnt P (n + 1) = cnt P n := by
  rw [cnt_s h, hP]; simp
theorem mnew_ag {f L : Int → Int} {w k : Int} (hf : ag f L 257) (hk : mpos L w = k) (h0 : 0 ≤ k ∧ k ≤ 256) : ag (iup (icpy f f 0 1 k) 0 w) (mnew L w) 257 := fun j a b => by
  by_cases z : j = 0
  · rw [iup_eq z]; simp [mnew, z]
  · rw [iup_ne z]
    simp only [mnew, if_neg z, hk, icpy]
    by_cases g : j ≤ k
    · rw [if_pos (show 1 ≤ j ∧ j < 1 + k by omega), if_pos g, show (0 : Int) + (j - 1) = j - 1 by omega]
      exact hf (j - 1) (by omega) (by omega)
    · rw [if_neg (show ¬ (1 ≤ j ∧ j < 1 + k) by omega), if_neg g]
      exact hf j a b
theorem gv_put {co T : Int → Int} {i p q x : Int} (h : ∀ j, 0 ≤ j → j < p → co (if j < i then j else j + 1) = T j) (hq : q = if p < i then p else p + 1) (hx : x = T p) : ∀ j, 0 ≤ j → j < p + 1 → iup co q x (if j < i then j else j + 1) = T j := fun j a b => by
  by_cases z : j = p
  · rw [iup_eq (by rw [hq, z]), hx, z]
  · rw [iup_ne (by rw [hq]; split <;> split <;> omega)]
    exact h j a (by omega)
theorem gv_end {co T : Int → Int} {i t p : Int} (hi : 0 ≤ i ∧ i ≤ t) (hp : t ≤ p) (h : ∀ j, 0 ≤ j → j < p → co (if j < i then j else j + 1) = T j) : ag (iup co i (-2)) (gv T i) (t + 1) := fun j a b => by
  by_cases z : j = i
  · rw [iup_eq z]; simp [gv, z]
  · rw [iup_ne z]
    by_cases g : j < i
    · have := h j a (by omega)
      rw [if_pos g] at this
      simp only [gv, if_pos g]
      exact this
    · have := h (j - 1) (by omega) (by omega)
      rw [if_neg (show ¬ j - 1 < i by omega), show j - 1 + 1 = j by omega] at this
      simp only [gv, if_neg g, if_neg z]
      exact this
theorem rb_put {c q : Int → Int} {n b l x y : Int} (h0 : 0 ≤ n) (h : (b, l) = rb c q n) (hx : x = c n) (hy : y = q n) (hc : b < x ∨ (x = b ∧ y < l)) : (x, y) = rb c q (n + 1) := by
  rw [rb_s h0, ← h]
  have e : (b, l).1 < c n ∨ (c n = (b, l).1 ∧ q n < (b, l).2) := by
    show b < c n ∨ (c n = b ∧ q n < l)
    rw [← hx, ← hy]; exact hc
  rw [if_pos e, hx, hy]
theorem rb_keep {c q : Int → Int} {n b l x y : Int} (h0 : 0 ≤ n) (h : (b, l) = rb c q n) (hx : x = c n) (hy : y = q n) (hc : ¬ (b < x ∨ (x = b ∧ y < l))) : (b, l) = rb c q (n + 1) := by
  rw [rb_s h0, ← h]
  have e : ¬ ((b, l).1 < c n ∨ (c n = (b, l).1 ∧ q n < (b, l).2)) := by
    show ¬ (b < c n ∨ (c n = b ∧ q n < l))
    rw [← hx, ← hy]; exact hc
  rw [if_neg e]
theorem rpt_0 {X : Int → Int} {n b l : Int} (h : rb (cm X n) (fun r => min (og X n r) (og X n (r + 1))) n = (b, l)) (hb : b = 0) : rpt X n = 0 := by
  unfold rpt
  rw [h]
  exact if_pos hb
theorem rpt_1 {X : Int → Int} {n b l : Int} (h : rb (cm X n) (fun r => min (og X n r) (og X n (r + 1))) n = (b, l)) (hb : b ≠ 0) : rpt X n = 128 * b + l := by
  unfold rpt
  rw [h]
  exact if_neg hb
theorem rpt_rng {X : Int → Int} {n r : Int} (hn : 0 ≤ n ∧ n ≤ 96) (h0 : 0 ≤ r) (h1 : r ≤ n) {b l : Int} (h : (b, l) = rb (cm X n) (fun r => min (og X n r) (og X n (r + 1))) r) : 0 ≤ b ∧ b ≤ 96 ∧ 0 ≤ l ∧ l ≤ 96 := by
  have rr := rb_rng (c := cm X n) (q := fun r => min (og X n r) (og X n (r + 1))) (n := n) (B := 96) (by omega) (fun j a b => by
    have := cm_rng (X := X) (n := n) a b; omega) (fun j a b => by
    have := og_rng (X := X) (n := n) (r := j) a (by omega)
    have := og_rng (X := X) (n := n) (r := j + 1) (by omega) (by omega)
    show 0 ≤ min (og X n j) (og X n (j + 1)) ∧ min (og X n j) (og X n (j + 1)) ≤ 96
    omega) r h0 h1
  rw [← h] at rr
  exact rr
theorem exN_bad {m b : Int} (h : exR m b ≠ 0) : exN m b = m := if_neg h
theorem exG_bad {Pt : Int → Int} {m b : Int} (h : exR m b ≠ 0) : exG Pt m b = Pt := if_neg h
theorem exN_ok {m b : Int} (h : exR m b = 0) : exN m b = m + 1 := if_pos h
theorem exG_ok {Pt : Int → Int} {m b : Int} (h : exR m b = 0) : exG Pt m b = (fun j => if j = 0 then b else Pt (j - 1)) := if_pos h
theorem exR_bad {m b : Int} (h : b < 0 ∨ 256 ≤ b) : exR m b = -1 := if_pos h
theorem exR_full {m b : Int} (h : ¬ (b < 0 ∨ 256 ≤ b)) (h2 : 96 ≤ m) : exR m b = -3 := by unfold exR; rw [if_neg h, if_pos h2]
theorem exR_ok {m b : Int} (h : ¬ (b < 0 ∨ 256 ≤ b)) (h2 : ¬ 96 ≤ m) : exR m b = 0 := by unfold exR; rw [if_neg h, if_neg h2]
theorem ex_ag {f Pt : Int → Int} {m b : Int} (h : exR m b = 0) (hf : ag f Pt m) : ag (iup (icpy f f 0 1 m) 0 b) (exG Pt m b) (m + 1) := fun j a d => by
  rw [exG_ok h]
  by_cases z : j = 0
  · rw [iup_eq z]; simp [z]
  · rw [iup_ne z]
    show icpy f f 0 1 m j = if j = 0 then b else Pt (j - 1)
    rw [if_neg z]
    simp only [icpy]
    rw [if_pos (show 1 ≤ j ∧ j < 1 + m by omega), show (0 : Int) + (j - 1) = j - 1 by omega]
    exact hf (j - 1) (by omega) (by omega)
theorem ty_bad {t i : Int} (h : i < 1 ∨ 8 < i) : tyR t i = -1 ∧ tyN t i = t := ⟨if_pos h, if_pos h⟩
theorem ty_full {t i : Int} (h : ¬ (i < 1 ∨ 8 < i)) (h2 : 96 - t < i) : tyR t i = -3 ∧ tyN t i = t := by
  unfold tyR tyN
  rw [if_neg h, if_neg h, if_pos h2, if_pos h2]
  exact ⟨rfl, rfl⟩
theorem ty_ok {t i : Int} (h : ¬ (i < 1 ∨ 8 < i)) (h2 : ¬ 96 - t < i) : tyR t i = t + i ∧ tyN t i = t + i := by
  unfold tyR tyN
  rw [if_neg h, if_neg h, if_neg h2, if_neg h2]
  exact ⟨rfl, rfl⟩
theorem tyG_ag {f T : Int → Int} {t i : Int} {bits : Int64} (h : ag f T t) : ag f (tyG T t bits i) t := fun j a b => by
  simp only [tyG, if_pos b]
  exact h j a b
theorem zi {c : Prop} [Decidable c] : iR (if c then 1 else 0) := by split <;> exact ⟨by decide, by decide⟩
theorem zi_0 {c : Prop} [Decidable c] (h : (if c then (1 : Int) else 0) = 0) : ¬ c := fun z => by rw [if_pos z] at h; exact absurd h (by decide)
theorem zi_1 {c : Prop} [Decidable c] (h : (if c then (1 : Int) else 0) ≠ 0) : c := Classical.byContradiction fun z => h (if_neg z)
