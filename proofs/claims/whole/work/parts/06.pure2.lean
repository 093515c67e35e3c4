/-! moving to the front -/
def mpos (L : Int → Int) (w : Int) : Int := ldn (fun j => decide (L j ≠ w)) 256 0
def mnew (L : Int → Int) (w : Int) : Int → Int := fun j => if j = 0 then w else if j ≤ mpos L w then L (j - 1) else L j
def mL0 : Int → Int := fun j => if j = 0 then -2 else j - 1
def mst (col : Int → Int) : Nat → Int → Int
  | 0 => mL0
  | k + 1 => mnew (mst col k) (col (k : Int))
def mS (col : Int → Int) (k : Int) : Int → Int := mst col k.toNat
def mN (col : Int → Int) (k : Int) : Int := mpos (mS col k) (col k)
theorem mS_0 {col : Int → Int} : mS col 0 = mL0 := rfl
theorem mS_s {col : Int → Int} {k : Int} (h : 0 ≤ k) : mS col (k + 1) = mnew (mS col k) (col k) := by
  have e : (k + 1).toNat = k.toNat + 1 := by omega
  have e2 : ((k.toNat : Nat) : Int) = k := Int.toNat_of_nonneg h
  simp only [mS, e, mst, e2]
def sy (w : Int) : Prop := w = -2 ∨ (0 ≤ w ∧ w ≤ 255)
def mok (L : Int → Int) : Prop := (∀ j, 0 ≤ j → j ≤ 256 → sy (L j)) ∧ (∀ w, sy w → ∃ j, 0 ≤ j ∧ j ≤ 256 ∧ L j = w)
theorem mok_0 : mok mL0 := by
  refine ⟨fun j h0 h1 => ?_, fun w hw => ?_⟩
  · by_cases h : j = 0
    · left; simp [mL0, h]
    · right; simp only [mL0, if_neg h]; omega
  · rcases hw with hw | hw
    · exact ⟨0, by omega, by omega, by simp [mL0, hw]⟩
    · refine ⟨w + 1, by omega, by omega, ?_⟩
      have : ¬ w + 1 = 0 := by omega
      simp only [mL0, if_neg this]; omega
theorem mpos_spec {L : Int → Int} {w : Int} (h : mok L) (hw : sy w) : 0 ≤ mpos L w ∧ mpos L w ≤ 256 ∧ L (mpos L w) = w ∧ ∀ j, 0 ≤ j → j < mpos L w → L j ≠ w := by
  obtain ⟨h1, h2, h3, h4⟩ := ldn_spec (fun j => decide (L j ≠ w)) 256 0
  have e : mpos L w = ldn (fun j => decide (L j ≠ w)) 256 0 := rfl
  rw [← e] at h1 h2 h3 h4
  have h3' : ∀ j, 0 ≤ j → j < mpos L w → L j ≠ w := fun j a b => by simpa using h3 j a b
  refine ⟨h1, by omega, ?_, h3'⟩
  rcases h4 with h4 | h4
  · obtain ⟨j, j0, j1, j2⟩ := h.2 w hw
    by_cases hj : j < mpos L w
    · exact absurd j2 (h3' j j0 hj)
    · have : j = mpos L w := by omega
      rw [← this]; exact j2
  · simpa using h4
theorem mpos_eq {L : Int → Int} {w k : Int} (h0 : 0 ≤ k) (h1 : k ≤ 256) (h2 : ∀ j, 0 ≤ j → j < k → L j ≠ w) (h3 : k = 256 ∨ L k = w) : mpos L w = k := by
  refine ldn_eq h0 (by omega) (fun j a b => by simpa using h2 j a b) ?_
  rcases h3 with h3 | h3
  · left; omega
  · right; simpa using h3
theorem mok_s {L : Int → Int} {w : Int} (h : mok L) (hw : sy w) : mok (mnew L w) := by
  obtain ⟨p0, p1, p2, p3⟩ := mpos_spec h hw
  refine ⟨fun j h0 h1 => ?_, fun v hv => ?_⟩
  · simp only [mnew]
    split
    · exact hw
    · split
      · exact h.1 _ (by omega) (by omega)
      · exact h.1 _ h0 h1
  · by_cases e : v = w
    · exact ⟨0, by omega, by omega, by simp [mnew, e]⟩
    · obtain ⟨j, j0, j1, j2⟩ := h.2 v hv
      by_cases hj : j < mpos L w
      · refine ⟨j + 1, by omega, by omega, ?_⟩
        have q1 : ¬ j + 1 = 0 := by omega
        have q2 : j + 1 ≤ mpos L w := by omega
        have q3 : j + 1 - 1 = j := by omega
        simp only [mnew, if_neg q1, if_pos q2, q3]
        exact j2
      · have hne : j ≠ mpos L w := fun z => by rw [z, p2] at j2; exact e j2.symm
        refine ⟨j, j0, j1, ?_⟩
        have q1 : ¬ j = 0 := by omega
        have q2 : ¬ j ≤ mpos L w := by omega
        simp only [mnew, if_neg q1, if_neg q2]
        exact j2
theorem mok_S {col : Int → Int} {n : Int} (hc : ∀ j, 0 ≤ j → j < n → sy (col j)) : ∀ k, 0 ≤ k → k ≤ n → mok (mS col k) := by
  intro k hk
  refine up_ind (C := fun k => k ≤ n → mok (mS col k)) (fun _ => mok_0) ?_ k hk
  intro k hk ih h
  rw [mS_s hk]
  exact mok_s (ih (by omega)) (hc k hk (by omega))
/-- the symbol as the reference writes it -/
def ph (w : Int) : Int := if w = -2 then 256 else w
theorem ph_inj {a b : Int} (ha : sy a) (hb : sy b) : ph a = ph b ↔ a = b := by
  simp only [ph, sy] at *
  split <;> split <;> omega
theorem ph_rng {a : Int} (ha : sy a) : 0 ≤ ph a ∧ ph a ≤ 256 := by
  simp only [ph, sy] at *
  split <;> omega
/-! the order by its ranks, the column -/
noncomputable def og (X : Int → Int) (n r : Int) : Int := Classical.epsilon (fun p => 0 ≤ p ∧ p ≤ n ∧ rk X n p = r)
theorem og_SA {X : Int → Int} {n : Int} (hn : 0 ≤ n) : SA X n (og X n) := by
  intro r h0 h1
  exact Classical.epsilon_spec (p := fun p => 0 ≤ p ∧ p ≤ n ∧ rk X n p = r) (rk_surj hn r h0 h1)
theorem og_rng {X : Int → Int} {n r : Int} (h0 : 0 ≤ r) (h1 : r ≤ n) : 0 ≤ og X n r ∧ og X n r ≤ n := by
  obtain ⟨a, b, _⟩ := og_SA (X := X) (n := n) (by omega) r h0 h1
  exact ⟨a, b⟩
theorem og_rk {X : Int → Int} {n p : Int} (h0 : 0 ≤ p) (h1 : p ≤ n) : og X n (rk X n p) = p := SA_at (og_SA (by omega)) h0 h1
theorem rk_og {X : Int → Int} {n r : Int} (h0 : 0 ≤ r) (h1 : r ≤ n) : rk X n (og X n r) = r := (og_SA (X := X) (n := n) (by omega) r h0 h1).2.2
theorem og_0 {X : Int → Int} {n : Int} (hn : 0 ≤ n) : og X n 0 = n := SA_first (og_SA hn) hn
noncomputable def cX (X : Int → Int) (n r : Int) : Int := if og X n r = 0 then -2 else X (og X n r - 1)
noncomputable def cm (X : Int → Int) (n r : Int) : Int := al X n X n (og X n r) (og X n (r + 1))
def ag (f F : Int → Int) (n : Int) : Prop := ∀ j, 0 ≤ j → j < n → f j = F j
def bt8 (X : Int → Int) (n : Int) : Prop := ∀ j, 0 ≤ j → j < n → 0 ≤ X j ∧ X j ≤ 255
theorem cX_sy {X : Int → Int} {n r : Int} (hb : bt8 X n) (h0 : 0 ≤ r) (h1 : r ≤ n) : sy (cX X n r) := by
  obtain ⟨a, b⟩ := og_rng (X := X) h0 h1
  unfold cX
  split
  · exact Or.inl rfl
  · exact Or.inr (hb _ (by omega) (by omega))
/-! sums, the best, the most -/
def smN (F : Int → Int) : Nat → Int
  | 0 => 0
  | k + 1 => smN F k + F (k : Int)
def sm (F : Int → Int) (n : Int) : Int := smN F n.toNat
theorem sm_0 {F : Int → Int} : sm F 0 = 0 := rfl
theorem sm_s {F : Int → Int} {n : Int} (h : 0 ≤ n) : sm F (n + 1) = sm F n + F n := by
  have e : (n + 1).toNat = n.toNat + 1 := by omega
  have e2 : ((n.toNat : Nat) : Int) = n := Int.toNat_of_nonneg h
  simp only [sm, e, smN, e2]
theorem sm_shift {F : Int → Int} {n : Int} (h : 0 ≤ n) : sm F (n + 1) = F 0 + sm (fun r => F (r + 1)) n := by
  refine up_ind (C := fun n => sm F (n + 1) = F 0 + sm (fun r => F (r + 1)) n) ?_ ?_ n h
  · rw [sm_s (by omega), sm_0, sm_0]; omega
  · intro k hk ih
    rw [sm_s (by omega), ih, sm_s hk]; omega
theorem sm_congr {F G : Int → Int} {n : Int} (h0 : 0 ≤ n) (h : ∀ j, 0 ≤ j → j < n → F j = G j) : sm F n = sm G n := by
  refine up_ind (C := fun k => k ≤ n → sm F k = sm G k) (fun _ => by rw [sm_0, sm_0]) ?_ n h0 (Int.le_refl n)
  intro k hk ih hk1
  rw [sm_s hk, sm_s hk, ih (by omega), h k hk (by omega)]
def rbN (c p : Int → Int) : Nat → Int × Int
  | 0 => (0, 0)
  | k + 1 => if (rbN c p k).1 < c k ∨ (c k = (rbN c p k).1 ∧ p k < (rbN c p k).2) then (c k, p k) else rbN c p k
def rb (c p : Int → Int) (n : Int) : Int × Int := rbN c p n.toNat
theorem rb_0 {c p : Int → Int} : rb c p 0 = (0, 0) := rfl
theorem rb_s {c p : Int → Int} {n : Int} (h : 0 ≤ n) : rb c p (n + 1) = if (rb c p n).1 < c n ∨ (c n = (rb c p n).1 ∧ p n < (rb c p n).2) then (c n, p n) else rb c p n := by
  have e : (n + 1).toNat = n.toNat + 1 := by omega
  have e2 : ((n.toNat : Nat) : Int) = n := Int.toNat_of_nonneg h
  have e3 : rbN c p (n.toNat + 1) = if (rbN c p n.toNat).1 < c (n.toNat : Int) ∨ (c (n.toNat : Int) = (rbN c p n.toNat).1 ∧ p (n.toNat : Int) < (rbN c p n.toNat).2) then (c (n.toNat : Int), p (n.toNat : Int)) else rbN c p n.toNat := rfl
  rw [e2] at e3
  show rbN c p (n + 1).toNat = _
  rw [e]
  exact e3
def mxN (F : Int → Int) : Nat → Int
  | 0 => 0
  | k + 1 => max (mxN F k) (F (k : Int))
def mx (F : Int → Int) (n : Int) : Int := mxN F n.toNat
theorem mx_0 {F : Int → Int} : mx F 0 = 0 := rfl
theorem mx_s {F : Int → Int} {n : Int} (h : 0 ≤ n) : mx F (n + 1) = max (mx F n) (F n) := by
  have e : (n + 1).toNat = n.toNat + 1 := by omega
  have e2 : ((n.toNat : Nat) : Int) = n := Int.toNat_of_nonneg h
  simp only [mx, e, mxN, e2]
/-! the pattern -/
def htb (Pt : Int → Int) (m : Int) (X : Int → Int) (n p : Int) : Bool := decide (al Pt m X n 0 p = m)
def bfb (Pt : Int → Int) (m : Int) (X : Int → Int) (n p : Int) : Bool := decide (al Pt m X n 0 p ≠ m ∧ (p + al Pt m X n 0 p = n ∨ X (p + al Pt m X n 0 p) < Pt (al Pt m X n 0 p)))
def htp (Pt : Int → Int) (m : Int) (X : Int → Int) (n k : Int) : Int := ldn (fun p => !(htb Pt m X n p && decide (cnt (htb Pt m X n) p = k))) (n + 1).toNat 0
def htr (Pt : Int → Int) (m : Int) (X : Int → Int) (n k : Int) : Int := if htp Pt m X n k ≤ n then htp Pt m X n k else -1
theorem htr_at {Pt : Int → Int} {m : Int} {X : Int → Int} {n k p : Int} (h0 : 0 ≤ p) (h1 : p ≤ n) (h2 : ∀ j, 0 ≤ j → j < p → ¬ (htb Pt m X n j = true ∧ cnt (htb Pt m X n) j = k)) (h3 : htb Pt m X n p = true) (h4 : cnt (htb Pt m X n) p = k) : htr Pt m X n k = p := by
  have e : htp Pt m X n k = p := by
    refine ldn_eq h0 (by omega) (fun j a b => ?_) (Or.inr (by simp [h3, h4]))
    have := h2 j a b
    simp only [Bool.not_eq_true', Bool.and_eq_false_iff, decide_eq_false_iff_not]
    by_cases g : htb Pt m X n j = true
    · right; exact fun z => this ⟨g, z⟩
    · left; simpa using g
  rw [htr, e, if_pos h1]
theorem htr_no {Pt : Int → Int} {m : Int} {X : Int → Int} {n k : Int} (hn : 0 ≤ n) (h2 : ∀ j, 0 ≤ j → j < n + 1 → ¬ (htb Pt m X n j = true ∧ cnt (htb Pt m X n) j = k)) : htr Pt m X n k = -1 := by
  have e : htp Pt m X n k = n + 1 := by
    refine ldn_eq (by omega) (by omega) (fun j a b => ?_) (Or.inl (by omega))
    have := h2 j a b
    simp only [Bool.not_eq_true', Bool.and_eq_false_iff, decide_eq_false_iff_not]
    by_cases g : htb Pt m X n j = true
    · right; exact fun z => this ⟨g, z⟩
    · left; simpa using g
  rw [htr, e, if_neg (by omega)]
/-! from a column back to its text -/
def lfb (col : Int → Int) (r o : Int) : Bool := decide (col o < col r ∨ (col o = col r ∧ o < r))
def lf (col : Int → Int) (N r : Int) : Int := cnt (lfb col r) (N + 1)
def wkN (col : Int → Int) (N : Int) : Nat → Int
  | 0 => 0
  | i + 1 => lf col N (wkN col N i)
def wk (col : Int → Int) (N i : Int) : Int := wkN col N i.toNat
theorem wk_0 {col : Int → Int} {N : Int} : wk col N 0 = 0 := rfl
theorem wk_s {col : Int → Int} {N i : Int} (h : 0 ≤ i) : wk col N (i + 1) = lf col N (wk col N i) := by
  have e : (i + 1).toNat = i.toNat + 1 := by omega
  simp only [wk, e, wkN]
def cok (col : Int → Int) (N k : Int) : Prop := 0 ≤ k ∧ k ≤ N ∧ col k = -2 ∧ ∀ j, 0 ≤ j → j ≤ N → j ≠ k → 0 ≤ col j ∧ col j ≤ 255
theorem lf_rng {col : Int → Int} {N r : Int} (h0 : 0 ≤ r) (h1 : r ≤ N) : 0 ≤ lf col N r ∧ lf col N r ≤ N := by
  refine ⟨(cnt_rng (by omega)).1, ?_⟩
  have := cnt_lt (P := lfb col r) (Q := fun _ => true) (n := N + 1) (a := r) h0 (by omega) (by simp [lfb]) rfl (fun _ _ _ _ => rfl)
  rw [cnt_all (by omega) (fun _ _ _ => rfl)] at this
  have e : lf col N r = cnt (lfb col r) (N + 1) := rfl
  omega
theorem lf_lt {col : Int → Int} {N a b : Int} (h0 : 0 ≤ a) (h1 : a ≤ N) (h : col a < col b ∨ (col a = col b ∧ a < b)) : lf col N a < lf col N b := by
  refine cnt_lt (a := a) h0 (by omega) (by simp [lfb]) (by simp only [lfb, decide_eq_true_eq]; exact h) ?_
  intro j _ _ hj
  simp only [lfb, decide_eq_true_eq] at hj ⊢
  omega
theorem lf_iff {col : Int → Int} {N a b : Int} (a0 : 0 ≤ a) (a1 : a ≤ N) (b0 : 0 ≤ b) (b1 : b ≤ N) : lf col N a < lf col N b ↔ (col a < col b ∨ (col a = col b ∧ a < b)) := by
  constructor
  · intro h
    by_cases e : a = b
    · subst e; omega
    · refine Classical.byContradiction fun z => ?_
      have := lf_lt (N := N) b0 b1 (col := col) (b := a) (by omega)
      omega
  · exact lf_lt a0 a1
theorem lf_inj {col : Int → Int} {N a b : Int} (a0 : 0 ≤ a) (a1 : a ≤ N) (b0 : 0 ≤ b) (b1 : b ≤ N) (h : lf col N a = lf col N b) : a = b := by
  refine Classical.byContradiction fun e => ?_
  by_cases z : col a < col b ∨ (col a = col b ∧ a < b)
  · have := lf_lt (N := N) a0 a1 z; omega
  · have := lf_lt (N := N) (col := col) (a := b) (b := a) b0 b1 (by omega); omega
theorem lf_zero {col : Int → Int} {N k r : Int} (hc : cok col N k) (h0 : 0 ≤ r) (h1 : r ≤ N) (h : lf col N r = 0) : r = k := by
  obtain ⟨k0, k1, k2, k3⟩ := hc
  refine Classical.byContradiction fun e => ?_
  have q := k3 r h0 h1 e
  have := lf_lt (N := N) (col := col) (a := k) (b := r) k0 k1 (by omega)
  have := (lf_rng (col := col) k0 k1).1
  omega
def wgood (col : Int → Int) (N : Int) : Prop := ∀ i, 0 ≤ i → i < N → col (wk col N i) ≠ -2
def xt (col : Int → Int) (N p : Int) : Int := col (wk col N (N - 1 - p))
theorem wk_rng {col : Int → Int} {N : Int} (hN : 0 ≤ N) : ∀ i, 0 ≤ i → 0 ≤ wk col N i ∧ wk col N i ≤ N := by
  intro i hi
  refine up_ind (C := fun i => 0 ≤ wk col N i ∧ wk col N i ≤ N) (by rw [wk_0]; omega) ?_ i hi
  intro k hk ih
  rw [wk_s hk]
  exact lf_rng ih.1 ih.2
theorem wk_inj {col : Int → Int} {N k : Int} (hN : 0 ≤ N) (hc : cok col N k) (hg : wgood col N) : ∀ i, 0 ≤ i → ∀ j, i < j → j ≤ N → wk col N i ≠ wk col N j := by
  intro i hi
  refine up_ind (C := fun i => ∀ j, i < j → j ≤ N → wk col N i ≠ wk col N j) ?_ ?_ i hi
  · intro j h1 h2 z
    have e : j = (j - 1) + 1 := by omega
    rw [wk_0, e, wk_s (by omega)] at z
    have r := wk_rng (col := col) hN (j - 1) (by omega)
    have q := lf_zero hc r.1 r.2 z.symm
    have := hg (j - 1) (by omega) (by omega)
    rw [q] at this
    exact this hc.2.2.1
  · intro i hi ih j h1 h2 z
    have e : j = (j - 1) + 1 := by omega
    rw [e, wk_s hi, wk_s (by omega)] at z
    have r1 := wk_rng (col := col) hN i hi
    have r2 := wk_rng (col := col) hN (j - 1) (by omega)
    exact ih (j - 1) (by omega) (by omega) (lf_inj r1.1 r1.2 r2.1 r2.2 z)
theorem xt_at {col : Int → Int} {N i : Int} : xt col N (N - (i + 1)) = col (wk col N i) := by
  have e : N - 1 - (N - (i + 1)) = i := by omega
  rw [xt, e]
theorem wk_ord {col : Int → Int} {N k : Int} (hN : 0 ≤ N) (hc : cok col N k) (hg : wgood col N) : ∀ i, 0 ≤ i → i ≤ N → ∀ j, 0 ≤ j → j ≤ N → wk col N i < wk col N j → LT (xt col N) N (N - i) (N - j) := by
  intro i hi
  refine up_ind (C := fun i => i ≤ N → ∀ j, 0 ≤ j → j ≤ N → wk col N i < wk col N j → LT (xt col N) N (N - i) (N - j)) ?_ ?_ i hi
  · intro _ j h0 h1 h
    have hj : j ≠ 0 := fun z => by subst z; omega
    have e : N - 0 = N := by omega
    rw [e]
    exact LT_end (by omega)
  · intro i hi ih hiN j h0 h1 h
    have hj : j ≠ 0 := fun z => by
      subst z
      rw [wk_0] at h
      have := (wk_rng (col := col) hN (i + 1) (by omega)).1
      omega
    have e : j = (j - 1) + 1 := by omega
    generalize j - 1 = j' at e
    subst e
    rw [wk_s hi, wk_s (by omega)] at h
    have r1 := wk_rng (col := col) hN i hi
    have r2 := wk_rng (col := col) hN j' (by omega)
    rw [lf_iff r1.1 r1.2 r2.1 r2.2] at h
    have x1 := xt_at (col := col) (N := N) (i := i)
    have x2 := xt_at (col := col) (N := N) (i := j')
    by_cases hx : xt col N (N - (i + 1)) = xt col N (N - (j' + 1))
    · rw [LT_step (by omega) (by omega) hx]
      have e1 : N - (i + 1) + 1 = N - i := by omega
      have e2 : N - (j' + 1) + 1 = N - j' := by omega
      rw [e1, e2]
      refine ih (by omega) j' (by omega) (by omega) ?_
      rw [x1, x2] at hx
      omega
    · rw [LT_ne (by omega) (by omega) hx, x1, x2]
      rw [x1, x2] at hx
      omega
/-- the text that the walk writes has the column that was given -/
theorem wk_col {col : Int → Int} {N k : Int} (hN : 0 ≤ N) (hc : cok col N k) (hg : wgood col N) : (∀ r, 0 ≤ r → r ≤ N → cX (xt col N) N r = col r) ∧ wk col N N = k ∧ bt8 (xt col N) N := by
  have sj := inj_surj (f := wk col N) (n := N + 1) (by omega) (fun i h0 h1 => by
    have := wk_rng (col := col) hN i h0
    omega) (fun i j h0 h1 h2 => wk_inj hN hc hg i h0 j h1 (by omega))
  have lastk : wk col N N = k := by
    obtain ⟨i, h0, h1, h2⟩ := sj k hc.1 (by have := hc.2.1; omega)
    by_cases hi : i = N
    · rw [hi] at h2; exact h2
    · have := hg i h0 (by omega)
      rw [h2] at this
      exact absurd hc.2.2.1 this
  have ord := wk_ord hN hc hg
  -- the order that the walk gives
  have hi : ∀ r, ∃ i, 0 ≤ r → r ≤ N → 0 ≤ i ∧ i ≤ N ∧ wk col N i = r := by
    intro r
    by_cases h : 0 ≤ r ∧ r ≤ N
    · obtain ⟨i, h0, h1, h2⟩ := sj r h.1 (by omega)
      exact ⟨i, fun _ _ => ⟨h0, by omega, h2⟩⟩
    · exact ⟨0, fun a b => absurd ⟨a, b⟩ h⟩
  have sa : SA (xt col N) N (fun r => N - Classical.choose (hi r)) := by
    refine SA_of (fun r h0 h1 => ?_) (fun a b h0 h1 h2 => ?_)
    · obtain ⟨g0, g1, -⟩ := Classical.choose_spec (hi r) h0 h1
      omega
    · obtain ⟨g0, g1, g2⟩ := Classical.choose_spec (hi a) h0 (by omega)
      obtain ⟨q0, q1, q2⟩ := Classical.choose_spec (hi b) (by omega) h2
      exact ord _ g0 g1 _ q0 q1 (by rw [g2, q2]; exact h1)
  refine ⟨fun r h0 h1 => ?_, lastk, fun j h0 h1 => ?_⟩
  · obtain ⟨g0, g1, g2⟩ := Classical.choose_spec (hi r) h0 h1
    have e : og (xt col N) N r = N - Classical.choose (hi r) := SA_uniq (og_SA hN) sa h0 h1
    generalize Classical.choose (hi r) = i at g0 g1 g2 e
    unfold cX
    rw [e]
    by_cases hz : N - i = 0
    · rw [if_pos hz]
      have : i = N := by omega
      rw [this, lastk] at g2
      rw [← g2]
      exact hc.2.2.1.symm
    · rw [if_neg hz]
      have e2 : N - i - 1 = N - (i + 1) := by omega
      rw [e2, xt_at, g2]
  · have e : j = N - ((N - 1 - j) + 1) := by omega
    have r := wk_rng (col := col) hN (N - 1 - j) (by omega)
    have hne := hg (N - 1 - j) (by omega) (by omega)
    rw [e, xt_at]
    refine hc.2.2.2 _ r.1 r.2 (fun z => ?_)
    rw [z] at hne
    exact hne hc.2.2.1
