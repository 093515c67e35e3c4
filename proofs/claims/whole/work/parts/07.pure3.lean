/-! one turn of the reference's sorting -/
def srt (X : Int → Int) (n : Int) (o : Int → Int) (p : Int) : Prop := (∀ j, 0 ≤ j → j < p → 0 ≤ o j ∧ o j < p) ∧ ∀ i j, 0 ≤ i → i < j → j < p → LT X n (o i) (o j)
theorem srt_0 {X : Int → Int} {n : Int} {o : Int → Int} : srt X n o 0 := ⟨fun j _ _ => by omega, fun i j _ _ _ => by omega⟩
theorem srt_s {X : Int → Int} {n p a : Int} {o cur : Int → Int} (h0 : 0 ≤ a) (h1 : a ≤ p) (h2 : p ≤ n) (ho : srt X n o p) (c1 : ∀ j, 0 ≤ j → j < a → cur j = o j) (c2 : ∀ j, a < j → j ≤ p → cur j = o (j - 1)) (hb : ∀ j, a ≤ j → j < p → LT X n p (o j)) (he : a = 0 ∨ ¬ LT X n p (o (a - 1))) : srt X n (iup cur a p) (p + 1) := by
  obtain ⟨r, s⟩ := ho
  have v : ∀ j, iup cur a p j = if j = a then p else cur j := fun j => rfl
  refine ⟨fun j g0 g1 => ?_, fun i j g0 g1 g2 => ?_⟩
  · rw [v]
    split
    · omega
    · by_cases hj : j < a
      · rw [c1 j g0 hj]
        have := r j g0 (by omega)
        omega
      · rw [c2 j (by omega) (by omega)]
        have := r (j - 1) (by omega) (by omega)
        omega
  · have low : ∀ i, 0 ≤ i → i < a → LT X n (o i) p := fun i q0 q1 => by
      rcases he with he | he
      · omega
      · have rr := r (a - 1) (by omega) (by omega)
        have t : LT X n (o (a - 1)) p := by
          rcases LT_total (X := X) (n := n) (p := p) (q := o (a - 1)) h2 (by omega) (by omega) with z | z
          · exact absurd z he
          · exact z
        by_cases hi : i = a - 1
        · rw [hi]; exact t
        · exact LT_trans (s i (a - 1) q0 (by omega) (by omega)) t
    rw [v, v]
    by_cases hj : j = a
    · rw [if_pos hj, if_neg (by omega), c1 i g0 (by omega)]
      exact low i g0 (by omega)
    · rw [if_neg hj]
      by_cases hi : i = a
      · rw [if_pos hi, c2 j (by omega) (by omega)]
        exact hb (j - 1) (by omega) (by omega)
      · rw [if_neg hi]
        by_cases gj : j < a
        · rw [c1 i g0 (by omega), c1 j (by omega) gj]
          exact s i j g0 g1 (by omega)
        · rw [c2 j (by omega) (by omega)]
          by_cases gi : i < a
          · rw [c1 i g0 gi]
            exact s i (j - 1) g0 (by omega) (by omega)
          · rw [c2 i (by omega) (by omega)]
            exact s (i - 1) (j - 1) (by omega) (by omega) (by omega)
theorem srt_og {X : Int → Int} {n : Int} {o : Int → Int} (hn : 0 ≤ n) (h : srt X n o (n + 1)) : ag o (og X n) (n + 1) := by
  have sa : SA X n o := SA_of (fun r a b => by have := h.1 r a (by omega); omega) (fun i j a b d => h.2 i j a b (by omega))
  exact fun j a b => SA_uniq sa (og_SA hn) a (by omega)
/-! one turn of the ranking -/
theorem ras_iff {X : Int → Int} {n s p : Int} (hs0 : 0 ≤ s) (hsp : s < p) (hp : p ≤ n) : rks X n (s + 1) s ≤ rks X n (s + 1) p ↔ LT X n s p := by
  constructor
  · intro h
    rcases LT_total (X := X) (n := n) (p := s) (q := p) (by omega) hp (by omega) with z | z
    · exact z
    · have := rks_lt (X := X) (n := n) (s := s + 1) (p := p) (q := s) hp (by omega) (by omega) (by omega) z
      omega
  · intro h
    refine cnt_mono fun j g0 g1 hj => ?_
    simp only [Bool.and_eq_true, decide_eq_true_eq] at hj ⊢
    exact ⟨hj.1, (lb_iff (by omega) hp).mpr (LT_trans ((lb_iff (by omega) (by omega)).mp hj.2) h)⟩
theorem ras_s {X : Int → Int} {n s p : Int} (hs0 : 0 ≤ s) (hsp : s < p) (hp : p ≤ n) : rks X n s p = rks X n (s + 1) p + (if rks X n (s + 1) s ≤ rks X n (s + 1) p then 1 else 0) := by
  rw [rks_in hs0 (by omega)]
  by_cases h : LT X n s p
  · rw [if_pos ((lb_iff (by omega) hp).mpr h), if_pos ((ras_iff hs0 hsp hp).mpr h)]
  · rw [if_neg (fun z => h ((lb_iff (by omega) hp).mp z)), if_neg (fun z => h ((ras_iff hs0 hsp hp).mp z))]
theorem ras_self {X : Int → Int} {n s : Int} (hs0 : 0 ≤ s) (hs : s ≤ n) : rks X n s s = rks X n (s + 1) s := by
  rw [rks_in hs0 hs, if_neg (fun z => LT_irr ((lb_iff hs hs).mp z)), Int.add_zero]
def rkc (X : Int → Int) (n s i : Int) : Int := cnt (fun q => decide (s + 1 ≤ q) && lb X n q s) i
theorem rkc_0 {X : Int → Int} {n s : Int} : rkc X n s (s + 1) = 0 := cnt_none (fun j _ h => by
  have : ¬ s + 1 ≤ j := by omega
  simp [this])
theorem rkc_s {X : Int → Int} {n s i : Int} (h0 : 0 ≤ s) (h : s < i) (hi : i ≤ n) : rkc X n s (i + 1) = rkc X n s i + (if lb X n i s then 1 else 0) := by
  unfold rkc
  rw [cnt_s (by omega)]
  have : s + 1 ≤ i := by omega
  simp [this]
theorem rkc_end {X : Int → Int} {n s : Int} : rkc X n s (n + 1) = rks X n (s + 1) s := rfl
theorem rkc_rng {X : Int → Int} {n s i : Int} (h0 : 0 ≤ i) : 0 ≤ rkc X n s i ∧ rkc X n s i ≤ i := cnt_rng h0
/-! how many rows: the sum from the second suffix on -/
theorem dst_eq {X : Int → Int} {n : Int} (hn : 0 ≤ n) : sm (fun r => n - og X n r - (if 0 < r then al X n X n (og X n (r - 1)) (og X n r) else 0)) (n + 1) = sm (fun r => n - og X n (r + 1) - cm X n r) n := by
  rw [sm_shift hn, og_0 hn]
  have e : sm (fun r => n - og X n (r + 1) - (if 0 < r + 1 then al X n X n (og X n (r + 1 - 1)) (og X n (r + 1)) else 0)) n = sm (fun r => n - og X n (r + 1) - cm X n r) n := sm_congr hn (fun j a _ => by
    have q : 0 < j + 1 := by omega
    have q2 : j + 1 - 1 = j := by omega
    simp only [if_pos q, q2, cm])
  rw [e]
  simp
/-! the walk back as the reference counts -/
theorem lf_lon {col : Int → Int} {N k r : Int} (hc : cok col N k) (h0 : 0 ≤ r) (h1 : r ≤ N) (hr : r ≠ k) : lf col N r = 1 + cnt (fun o => decide (0 ≤ col o) && lfb col r o) (N + 1) := by
  obtain ⟨k0, k1, k2, k3⟩ := hc
  have q := k3 r h0 h1 hr
  have : lf col N r = cnt (fun o => decide (0 ≤ col o) && lfb col r o) (N + 1) + 1 := by
    refine cnt_one (a := k) k0 (by omega) (by simp only [lfb, decide_eq_true_eq]; omega) (by simp [k2]) ?_
    intro j g0 g1 hj
    have := k3 j g0 (by omega) hj
    simp [this.1]
  omega
