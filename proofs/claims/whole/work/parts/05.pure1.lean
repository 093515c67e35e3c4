/-! counting, leading stretches -/
def cntN (P : Int → Bool) : Nat → Int
  | 0 => 0
  | k + 1 => cntN P k + (if P (k : Int) then 1 else 0)
/-- how many j, 0 ≤ j < n, have P -/
def cnt (P : Int → Bool) (n : Int) : Int := cntN P n.toNat
theorem cnt_0 {P : Int → Bool} {n : Int} (h : n ≤ 0) : cnt P n = 0 := by
  have e : n.toNat = 0 := by omega
  simp [cnt, e, cntN]
theorem cnt_s {P : Int → Bool} {n : Int} (h : 0 ≤ n) : cnt P (n + 1) = cnt P n + (if P n then 1 else 0) := by
  have e : (n + 1).toNat = n.toNat + 1 := by omega
  have e2 : ((n.toNat : Nat) : Int) = n := Int.toNat_of_nonneg h
  simp only [cnt, e, cntN, e2]
/-- induction up from 0 -/
theorem up_ind {C : Int → Prop} (h0 : C 0) (hs : ∀ k, 0 ≤ k → C k → C (k + 1)) : ∀ n, 0 ≤ n → C n := by
  intro n hn
  have key : ∀ k : Nat, C (k : Int) := by
    intro k
    induction k with
    | zero => exact h0
    | succ k ih => exact hs (k : Int) (by omega) ih
  have e : ((n.toNat : Nat) : Int) = n := Int.toNat_of_nonneg hn
  rw [← e]
  exact key _
theorem cnt_congr {P Q : Int → Bool} {n : Int} (h : ∀ j, 0 ≤ j → j < n → P j = Q j) : cnt P n = cnt Q n := by
  by_cases hn : n ≤ 0
  · rw [cnt_0 hn, cnt_0 hn]
  · have key : ∀ k, 0 ≤ k → k ≤ n → cnt P k = cnt Q k := by
      intro k hk
      refine up_ind (C := fun k => k ≤ n → cnt P k = cnt Q k) (fun _ => by rw [cnt_0 (by omega), cnt_0 (by omega)]) ?_ k hk
      intro k hk ih hk1
      rw [cnt_s hk, cnt_s hk, ih (by omega), h k hk (by omega)]
    exact key n (by omega) (by omega)
theorem cnt_mono {P Q : Int → Bool} {n : Int} (h : ∀ j, 0 ≤ j → j < n → P j = true → Q j = true) : cnt P n ≤ cnt Q n := by
  by_cases hn : n ≤ 0
  · rw [cnt_0 hn, cnt_0 hn]; omega
  · have key : ∀ k, 0 ≤ k → k ≤ n → cnt P k ≤ cnt Q k := by
      intro k hk
      refine up_ind (C := fun k => k ≤ n → cnt P k ≤ cnt Q k) (fun _ => by rw [cnt_0 (by omega), cnt_0 (by omega)]; omega) ?_ k hk
      intro k hk ih hk1
      rw [cnt_s hk, cnt_s hk]
      have i1 := ih (by omega)
      have i2 := h k hk (by omega)
      by_cases hp : P k = true
      · rw [if_pos hp, if_pos (i2 hp)]; omega
      · rw [if_neg hp]
        by_cases hq : Q k = true
        · rw [if_pos hq]; omega
        · rw [if_neg hq]; omega
    exact key n (by omega) (by omega)
theorem cnt_rng {P : Int → Bool} {n : Int} (h : 0 ≤ n) : 0 ≤ cnt P n ∧ cnt P n ≤ n := by
  refine up_ind (C := fun k => 0 ≤ cnt P k ∧ cnt P k ≤ k) (by rw [cnt_0 (by omega)]; omega) ?_ n h
  intro k hk ih
  rw [cnt_s hk]
  by_cases hp : P k = true
  · rw [if_pos hp]; omega
  · rw [if_neg hp]; omega
theorem cnt_none {P : Int → Bool} {n : Int} (h : ∀ j, 0 ≤ j → j < n → P j = false) : cnt P n = 0 := by
  by_cases hn : n ≤ 0
  · exact cnt_0 hn
  · have e : cnt P n = cnt (fun _ => false) n := cnt_congr h
    rw [e]
    refine up_ind (C := fun k => cnt (fun _ => false) k = 0) (cnt_0 (by omega)) ?_ n (by omega)
    intro k hk ih
    rw [cnt_s hk, ih]
    simp
theorem cnt_all {P : Int → Bool} {n : Int} (h0 : 0 ≤ n) (h : ∀ j, 0 ≤ j → j < n → P j = true) : cnt P n = n := by
  have e : cnt P n = cnt (fun _ => true) n := cnt_congr h
  rw [e]
  refine up_ind (C := fun k => cnt (fun _ => true) k = k) (cnt_0 (by omega)) ?_ n h0
  intro k hk ih
  rw [cnt_s hk, ih]
  simp
theorem cnt_not {P : Int → Bool} {n : Int} (h0 : 0 ≤ n) : cnt (fun j => !P j) n = n - cnt P n := by
  refine up_ind (C := fun k => cnt (fun j => !P j) k = k - cnt P k) (by rw [cnt_0 (by omega), cnt_0 (by omega)]; omega) ?_ n h0
  intro k hk ih
  rw [cnt_s hk, cnt_s hk, ih]
  cases P k <;> simp <;> omega
/-- one more -/
theorem cnt_one {P Q : Int → Bool} {n a : Int} (h0 : 0 ≤ a) (h1 : a < n) (hP : P a = true) (hQ : Q a = false) (h : ∀ j, 0 ≤ j → j < n → j ≠ a → P j = Q j) : cnt P n = cnt Q n + 1 := by
  have key : ∀ k, 0 ≤ k → k ≤ n → cnt P k = cnt Q k + (if a < k then 1 else 0) := by
    intro k hk
    refine up_ind (C := fun k => k ≤ n → cnt P k = cnt Q k + (if a < k then 1 else 0)) (fun _ => by rw [cnt_0 (by omega), cnt_0 (by omega), if_neg (by omega)]; omega) ?_ k hk
    intro k hk ih hk1
    rw [cnt_s hk, cnt_s hk, ih (by omega)]
    by_cases hka : k = a
    · subst hka
      have e2 : k < k + 1 := by omega
      simp [hP, hQ, e2]
    · rw [h k hk (by omega) hka]
      by_cases hl : a < k
      · have e : a < k + 1 := by omega
        simp only [if_pos hl, if_pos e]; omega
      · have e : ¬ a < k + 1 := by omega
        simp only [if_neg hl, if_neg e]; omega
  have := key n (by omega) (by omega)
  rw [if_pos h1] at this
  exact this
theorem cnt_lt {P Q : Int → Bool} {n a : Int} (h0 : 0 ≤ a) (h1 : a < n) (hP : P a = false) (hQ : Q a = true) (h : ∀ j, 0 ≤ j → j < n → P j = true → Q j = true) : cnt P n < cnt Q n := by
  have e : cnt Q n = cnt (fun j => Q j && decide (j ≠ a)) n + 1 := cnt_one h0 h1 hQ (by simp) (fun j _ _ hj => by simp [hj])
  have i : cnt P n ≤ cnt (fun j => Q j && decide (j ≠ a)) n := cnt_mono (fun j g0 g1 hp => by
    have hq := h j g0 g1 hp
    have hne : j ≠ a := fun z => by rw [z, hP] at hp; cases hp
    simp [hq, hne])
  omega
/-- k different places with P -/
theorem cnt_inj {P : Int → Bool} {n : Int} {f : Int → Int} : ∀ k, 0 ≤ k → ∀ P : Int → Bool, (∀ i, 0 ≤ i → i < k → 0 ≤ f i ∧ f i < n ∧ P (f i) = true) → (∀ i j, 0 ≤ i → i < j → j < k → f i ≠ f j) → k ≤ cnt P n := by
  intro k hk
  refine up_ind (C := fun k => ∀ P : Int → Bool, (∀ i, 0 ≤ i → i < k → 0 ≤ f i ∧ f i < n ∧ P (f i) = true) → (∀ i j, 0 ≤ i → i < j → j < k → f i ≠ f j) → k ≤ cnt P n) ?_ ?_ k hk
  · intro P _ _
    by_cases hn : 0 ≤ n
    · exact (cnt_rng hn).1
    · rw [cnt_0 (by omega)]; omega
  · intro k hk ih P h1 h2
    obtain ⟨g0, g1, g2⟩ := h1 k hk (by omega)
    have e : cnt P n = cnt (fun j => P j && decide (j ≠ f k)) n + 1 := cnt_one g0 g1 g2 (by simp) (fun j _ _ hj => by simp [hj])
    have i := ih (fun j => P j && decide (j ≠ f k)) (fun i hi hik => by
      obtain ⟨q0, q1, q2⟩ := h1 i hi (by omega)
      have hne : f i ≠ f k := h2 i k hi hik (by omega)
      exact ⟨q0, q1, by simp [q2, hne]⟩) (fun i j hi hij hj => h2 i j hi hij (by omega))
    omega
/-- an injection of [0, n) into itself meets everything -/
theorem inj_surj {f : Int → Int} {n : Int} (hn : 0 ≤ n) (h1 : ∀ i, 0 ≤ i → i < n → 0 ≤ f i ∧ f i < n) (h2 : ∀ i j, 0 ≤ i → i < j → j < n → f i ≠ f j) : ∀ r, 0 ≤ r → r < n → ∃ i, 0 ≤ i ∧ i < n ∧ f i = r := by
  intro r hr hrn
  refine Classical.byContradiction fun hno => ?_
  have hP : ∀ i, 0 ≤ i → i < n → 0 ≤ f i ∧ f i < n ∧ (fun j : Int => decide (j ≠ r)) (f i) = true := fun i hi hin => by
    obtain ⟨q0, q1⟩ := h1 i hi hin
    have hne : f i ≠ r := fun z => hno ⟨i, hi, hin, z⟩
    exact ⟨q0, q1, by simp [hne]⟩
  have i1 := cnt_inj (P := fun j => decide (j ≠ r)) n hn (fun j => decide (j ≠ r)) hP h2
  have e : cnt (fun _ => true) n = cnt (fun j => decide (j ≠ r)) n + 1 := cnt_one hr hrn rfl (by simp) (fun j _ _ hj => by simp [hj])
  rw [cnt_all hn (fun _ _ _ => rfl)] at e
  omega
/-- the leading stretch -/
def ldn (P : Int → Bool) : Nat → Int → Int
  | 0, i => i
  | b + 1, i => if P i then ldn P b (i + 1) else i
theorem ldn_spec (P : Int → Bool) : ∀ (b : Nat) (i : Int), i ≤ ldn P b i ∧ ldn P b i ≤ i + b ∧ (∀ j, i ≤ j → j < ldn P b i → P j = true) ∧ (ldn P b i = i + b ∨ P (ldn P b i) = false)
  | 0, i => ⟨by simp [ldn], by simp [ldn], fun j h1 h2 => by simp [ldn] at h2; omega, Or.inl (by simp [ldn])⟩
  | b + 1, i => by
    obtain ⟨h1, h2, h3, h4⟩ := ldn_spec P b (i + 1)
    by_cases hp : P i = true
    · have e : ldn P (b + 1) i = ldn P b (i + 1) := by simp [ldn, hp]
      rw [e]
      refine ⟨by omega, by omega, fun j g1 g2 => ?_, ?_⟩
      · by_cases hj : j = i
        · rw [hj]; exact hp
        · exact h3 j (by omega) g2
      · rcases h4 with h4 | h4
        · left; omega
        · right; exact h4
    · have e : ldn P (b + 1) i = i := by simp [ldn, hp]
      rw [e]
      exact ⟨by omega, by omega, fun j g1 g2 => by omega, Or.inr (by simpa using hp)⟩
theorem ldn_eq {P : Int → Bool} {b : Nat} {i k : Int} (h1 : i ≤ k) (h2 : k ≤ i + b) (h3 : ∀ j, i ≤ j → j < k → P j = true) (h4 : k = i + b ∨ P k = false) : ldn P b i = k := by
  obtain ⟨g1, g2, g3, g4⟩ := ldn_spec P b i
  rcases Int.lt_trichotomy (ldn P b i) k with h | h | h
  · have q := h3 _ g1 h
    rcases g4 with g4 | g4
    · omega
    · rw [q] at g4; cases g4
  · exact h
  · have q := g3 _ h1 h
    rcases h4 with h4 | h4
    · omega
    · rw [q] at h4; cases h4
/-! how far two rows are alike -/
def isAl (f : Int → Int) (n : Int) (g : Int → Int) (m p q k : Int) : Prop := 0 ≤ k ∧ p + k ≤ n ∧ q + k ≤ m ∧ (∀ j, 0 ≤ j → j < k → f (p + j) = g (q + j)) ∧ (p + k = n ∨ q + k = m ∨ f (p + k) ≠ g (q + k))
def al (f : Int → Int) (n : Int) (g : Int → Int) (m p q : Int) : Int := ldn (fun j => decide (f (p + j) = g (q + j))) (min (n - p) (m - q)).toNat 0
theorem al_spec {f g : Int → Int} {n m p q : Int} (hp : p ≤ n) (hq : q ≤ m) : isAl f n g m p q (al f n g m p q) := by
  obtain ⟨h1, h2, h3, h4⟩ := ldn_spec (fun j => decide (f (p + j) = g (q + j))) (min (n - p) (m - q)).toNat 0
  have e : al f n g m p q = ldn (fun j => decide (f (p + j) = g (q + j))) (min (n - p) (m - q)).toNat 0 := rfl
  rw [← e] at h1 h2 h3 h4
  have e2 : (((min (n - p) (m - q)).toNat : Nat) : Int) = min (n - p) (m - q) := Int.toNat_of_nonneg (by omega)
  rw [e2] at h2 h4
  refine ⟨h1, by omega, by omega, fun j g1 g2 => by simpa using h3 j g1 g2, ?_⟩
  rcases h4 with h4 | h4
  · omega
  · right; right; simpa using h4
theorem al_eq {f g : Int → Int} {n m p q k : Int} (h : isAl f n g m p q k) : al f n g m p q = k := by
  obtain ⟨h1, h2, h3, h4, h5⟩ := h
  have e2 : (((min (n - p) (m - q)).toNat : Nat) : Int) = min (n - p) (m - q) := Int.toNat_of_nonneg (by omega)
  refine ldn_eq h1 (by rw [e2]; omega) (fun j g1 g2 => by simpa using h4 j g1 g2) ?_
  rw [e2]
  rcases h5 with h5 | h5 | h5
  · left; omega
  · left; omega
  · right; simpa using h5
theorem isAl_symm {f g : Int → Int} {n m p q k : Int} (h : isAl f n g m p q k) : isAl g m f n q p k := by
  obtain ⟨h1, h2, h3, h4, h5⟩ := h
  refine ⟨h1, h3, h2, fun j g1 g2 => (h4 j g1 g2).symm, ?_⟩
  rcases h5 with h5 | h5 | h5
  · exact Or.inr (Or.inl h5)
  · exact Or.inl h5
  · exact Or.inr (Or.inr (fun z => h5 z.symm))
theorem al_comm {f g : Int → Int} {n m p q : Int} (hp : p ≤ n) (hq : q ≤ m) : al f n g m p q = al g m f n q p := al_eq (isAl_symm (al_spec hq hp))
/-! the order of suffixes -/
def LT (X : Int → Int) (n p q : Int) : Prop := ∃ k, 0 ≤ k ∧ (∀ j, 0 ≤ j → j < k → X (p + j) = X (q + j)) ∧ p + k ≤ n ∧ q + k < n ∧ (p + k = n ∨ X (p + k) < X (q + k))
theorem LT_irr {X : Int → Int} {n p : Int} (h : LT X n p p) : False := by
  obtain ⟨k, -, -, -, h1, h2⟩ := h
  rcases h2 with h2 | h2 <;> omega
theorem LT_trans {X : Int → Int} {n p q r : Int} (h1 : LT X n p q) (h2 : LT X n q r) : LT X n p r := by
  obtain ⟨a, a0, a1, a2, a3, a4⟩ := h1
  obtain ⟨b, b0, b1, b2, b3, b4⟩ := h2
  rcases Int.lt_trichotomy a b with h | h | h
  · refine ⟨a, a0, fun j g0 g1 => (a1 j g0 g1).trans (b1 j g0 (by omega)), a2, by omega, ?_⟩
    have e := b1 a a0 h
    rcases a4 with a4 | a4
    · exact Or.inl a4
    · right; rw [← e]; exact a4
  · subst h
    refine ⟨a, a0, fun j g0 g1 => (a1 j g0 g1).trans (b1 j g0 g1), a2, b3, ?_⟩
    rcases a4 with a4 | a4
    · exact Or.inl a4
    · rcases b4 with b4 | b4
      · omega
      · right; omega
  · refine ⟨b, b0, fun j g0 g1 => (a1 j g0 (by omega)).trans (b1 j g0 g1), by omega, b3, ?_⟩
    have e := a1 b b0 h
    rcases b4 with b4 | b4
    · omega
    · right; rw [e]; exact b4
theorem LT_al {X : Int → Int} {n p q k : Int} (h : isAl X n X n p q k) : LT X n p q ↔ (q + k < n ∧ (p + k = n ∨ X (p + k) < X (q + k))) := by
  obtain ⟨h1, h2, h3, h4, h5⟩ := h
  constructor
  · intro ⟨a, a0, a1, a2, a3, a4⟩
    rcases Int.lt_trichotomy a k with h | h | h
    · have e := h4 a a0 h
      rcases a4 with a4 | a4 <;> omega
    · subst h; exact ⟨a3, a4⟩
    · have e := a1 k h1 h
      rcases h5 with h5 | h5 | h5
      · omega
      · omega
      · exact absurd e h5
  · intro ⟨g1, g2⟩
    exact ⟨k, h1, h4, h2, g1, g2⟩
theorem LT_total {X : Int → Int} {n p q : Int} (hp : p ≤ n) (hq : q ≤ n) (hne : p ≠ q) : LT X n p q ∨ LT X n q p := by
  have h := al_spec (f := X) (g := X) (n := n) (m := n) hp hq
  rw [LT_al h, LT_al (isAl_symm h)]
  obtain ⟨h1, h2, h3, h4, h5⟩ := h
  generalize al X n X n p q = k at *
  rcases h5 with h5 | h5 | h5 <;> omega
theorem LT_asym {X : Int → Int} {n p q : Int} (h1 : LT X n p q) (h2 : LT X n q p) : False := LT_irr (LT_trans h1 h2)
theorem LT_end {X : Int → Int} {n q : Int} (hq : q < n) : LT X n n q := ⟨0, by omega, fun j _ _ => by omega, by omega, by omega, Or.inl (by omega)⟩
theorem LT_ne {X : Int → Int} {n p q : Int} (hp : p < n) (hq : q < n) (h : X p ≠ X q) : LT X n p q ↔ X p < X q := by
  have e : isAl X n X n p q 0 := ⟨by omega, by omega, by omega, fun j _ _ => by omega, Or.inr (Or.inr (by simpa using h))⟩
  rw [LT_al e]
  simp only [Int.add_zero]
  omega
theorem LT_step {X : Int → Int} {n p q : Int} (hp : p < n) (hq : q < n) (h : X p = X q) : LT X n p q ↔ LT X n (p + 1) (q + 1) := by
  have s := al_spec (f := X) (g := X) (n := n) (m := n) (p := p + 1) (q := q + 1) (by omega) (by omega)
  generalize al X n X n (p + 1) (q + 1) = k at s
  have s0 := s
  obtain ⟨h1, h2, h3, h4, h5⟩ := s0
  have e1 : p + (k + 1) = p + 1 + k := by omega
  have e2 : q + (k + 1) = q + 1 + k := by omega
  have t : isAl X n X n p q (k + 1) := by
    refine ⟨by omega, by omega, by omega, fun j g0 g1 => ?_, ?_⟩
    · by_cases hj : j = 0
      · subst hj; simpa using h
      · have := h4 (j - 1) (by omega) (by omega)
        have i1 : p + 1 + (j - 1) = p + j := by omega
        have i2 : q + 1 + (j - 1) = q + j := by omega
        rw [i1, i2] at this
        exact this
    · rw [e1, e2]; exact h5
  rw [LT_al t, LT_al s, e1, e2]
/-- LT as a test -/
def lb (X : Int → Int) (n p q : Int) : Bool := decide (q + al X n X n p q < n ∧ (p + al X n X n p q = n ∨ X (p + al X n X n p q) < X (q + al X n X n p q)))
theorem lb_iff {X : Int → Int} {n p q : Int} (hp : p ≤ n) (hq : q ≤ n) : lb X n p q = true ↔ LT X n p q := by
  rw [LT_al (al_spec hp hq)]
  simp [lb]
/-- the rank of p among the suffixes from s on -/
def rks (X : Int → Int) (n s p : Int) : Int := cnt (fun q => decide (s ≤ q) && lb X n q p) (n + 1)
def rk (X : Int → Int) (n p : Int) : Int := cnt (fun q => lb X n q p) (n + 1)
theorem rks_0 {X : Int → Int} {n p : Int} : rks X n 0 p = rk X n p := cnt_congr (fun j h _ => by simp [h])
theorem rks_lt {X : Int → Int} {n s p q : Int} (hp : p ≤ n) (hq : q ≤ n) (hs0 : 0 ≤ s) (hsp : s ≤ p) (h : LT X n p q) : rks X n s p < rks X n s q := by
  refine cnt_lt (a := p) (by omega) (by omega) ?_ ?_ ?_
  · have : ¬ lb X n p p = true := fun z => LT_irr ((lb_iff hp hp).mp z)
    simp [this]
  · simp [hsp, (lb_iff hp hq).mpr h]
  · intro j g0 g1 hj
    simp only [Bool.and_eq_true, decide_eq_true_eq] at hj ⊢
    exact ⟨hj.1, (lb_iff (by omega) hq).mpr (LT_trans ((lb_iff (by omega) hp).mp hj.2) h)⟩
theorem rks_iff {X : Int → Int} {n s p q : Int} (hp : p ≤ n) (hq : q ≤ n) (hs0 : 0 ≤ s) (hsp : s ≤ p) (hsq : s ≤ q) : rks X n s p < rks X n s q ↔ LT X n p q := by
  constructor
  · intro h
    by_cases e : p = q
    · subst e; omega
    · rcases LT_total hp hq e with g | g
      · exact g
      · have := rks_lt hq hp hs0 hsq g; omega
  · exact rks_lt hp hq hs0 hsp
theorem rk_lt {X : Int → Int} {n p q : Int} (hp0 : 0 ≤ p) (hp : p ≤ n) (hq : q ≤ n) (h : LT X n p q) : rk X n p < rk X n q := by
  have := rks_lt hp hq (Int.le_refl 0) hp0 h
  rwa [rks_0, rks_0] at this
theorem rk_iff {X : Int → Int} {n p q : Int} (hp0 : 0 ≤ p) (hp : p ≤ n) (hq0 : 0 ≤ q) (hq : q ≤ n) : rk X n p < rk X n q ↔ LT X n p q := by
  have := rks_iff (X := X) hp hq (Int.le_refl 0) hp0 hq0
  rwa [rks_0, rks_0] at this
theorem rk_inj {X : Int → Int} {n p q : Int} (hp0 : 0 ≤ p) (hp : p ≤ n) (hq0 : 0 ≤ q) (hq : q ≤ n) (h : rk X n p = rk X n q) : p = q := by
  refine Classical.byContradiction fun e => ?_
  rcases LT_total (X := X) hp hq e with g | g
  · have := rk_lt (X := X) hp0 hp hq g; omega
  · have := rk_lt (X := X) hq0 hq hp g; omega
theorem rks_rng {X : Int → Int} {n s p : Int} (hn : 0 ≤ n) (hs0 : 0 ≤ s) (hsp : s ≤ p) (hp : p ≤ n) : 0 ≤ rks X n s p ∧ rks X n s p ≤ n - s := by
  refine ⟨(cnt_rng (by omega)).1, ?_⟩
  have h1 : rks X n s p < cnt (fun q => decide (s ≤ q)) (n + 1) := cnt_lt (a := p) (by omega) (by omega) (by
    have : ¬ lb X n p p = true := fun z => LT_irr ((lb_iff hp hp).mp z)
    simp [this]) (by simp [hsp]) (fun j _ _ hj => by simp only [Bool.and_eq_true] at hj; exact hj.1)
  have h2 : cnt (fun q => !decide (s ≤ q)) (n + 1) = n + 1 - cnt (fun q => decide (s ≤ q)) (n + 1) := cnt_not (by omega)
  have h3 : s ≤ cnt (fun q => !decide (s ≤ q)) (n + 1) := cnt_inj (P := fun q => !decide (s ≤ q)) (f := fun i => i) s hs0 _ (fun i g0 g1 => ⟨g0, by omega, by simp; omega⟩) (fun i j _ h _ => by omega)
  omega
theorem rk_rng {X : Int → Int} {n p : Int} (hp0 : 0 ≤ p) (hp : p ≤ n) : 0 ≤ rk X n p ∧ rk X n p ≤ n := by
  have := rks_rng (X := X) (n := n) (s := 0) (p := p) (by omega) (by omega) hp0 hp
  rw [rks_0] at this
  omega
theorem rk_end {X : Int → Int} {n : Int} (hn : 0 ≤ n) : rk X n n = 0 := cnt_none (fun j h0 h1 => by
  have : ¬ lb X n j n = true := fun z => by
    obtain ⟨k, k0, -, -, k1, -⟩ := (lb_iff (by omega) (by omega)).mp z
    omega
  simpa using this)
theorem rk_surj {X : Int → Int} {n : Int} (hn : 0 ≤ n) : ∀ r, 0 ≤ r → r ≤ n → ∃ p, 0 ≤ p ∧ p ≤ n ∧ rk X n p = r := by
  intro r h0 h1
  obtain ⟨i, a, b, h⟩ := inj_surj (f := rk X n) (n := n + 1) (by omega) (fun i g0 g1 => by
    have := rk_rng (X := X) g0 (show i ≤ n by omega)
    omega) (fun i j g0 g1 g2 z => by
    have := rk_inj g0 (by omega) (by omega) (by omega) z
    omega) r h0 (by omega)
  exact ⟨i, a, by omega, h⟩
/-- one suffix more: the longer one comes in -/
theorem rks_in {X : Int → Int} {n s p : Int} (hs0 : 0 ≤ s) (hs : s ≤ n) : rks X n s p = rks X n (s + 1) p + (if lb X n s p then 1 else 0) := by
  by_cases h : lb X n s p = true
  · rw [if_pos h]
    refine cnt_one (a := s) hs0 (by omega) (by simp [h]) ?_ ?_
    · have : ¬ s + 1 ≤ s := by omega
      simp [this]
    · intro j _ _ hj
      have : s ≤ j ↔ s + 1 ≤ j := by omega
      simp [this]
  · rw [if_neg h, Int.add_zero]
    refine cnt_congr fun j _ _ => ?_
    by_cases hj : j = s
    · subst hj; simp [h]
    · have : s ≤ j ↔ s + 1 ≤ j := by omega
      simp [this]
/-- the order of the suffixes by their ranks -/
def SA (X : Int → Int) (n : Int) (o : Int → Int) : Prop := ∀ r, 0 ≤ r → r ≤ n → 0 ≤ o r ∧ o r ≤ n ∧ rk X n (o r) = r
theorem SA_at {X : Int → Int} {n : Int} {o : Int → Int} (h : SA X n o) {p : Int} (h0 : 0 ≤ p) (h1 : p ≤ n) : o (rk X n p) = p := by
  obtain ⟨g0, g1⟩ := rk_rng (X := X) h0 h1
  obtain ⟨a, b, d⟩ := h _ g0 g1
  exact rk_inj a b h0 h1 d
theorem SA_uniq {X : Int → Int} {n : Int} {o o' : Int → Int} (h : SA X n o) (h' : SA X n o') {r : Int} (h0 : 0 ≤ r) (h1 : r ≤ n) : o r = o' r := by
  obtain ⟨a, b, d⟩ := h r h0 h1
  obtain ⟨a', b', d'⟩ := h' r h0 h1
  exact rk_inj a b a' b' (d.trans d'.symm)
theorem SA_first {X : Int → Int} {n : Int} {o : Int → Int} (h : SA X n o) (hn : 0 ≤ n) : o 0 = n := by
  have := SA_at h hn (Int.le_refl n)
  rwa [rk_end hn] at this
/-- sorted rows are the order -/
theorem SA_of {X : Int → Int} {n : Int} {o : Int → Int} (h1 : ∀ r, 0 ≤ r → r ≤ n → 0 ≤ o r ∧ o r ≤ n) (h2 : ∀ i j, 0 ≤ i → i < j → j ≤ n → LT X n (o i) (o j)) : SA X n o := by
  intro r h0 hr
  obtain ⟨a, b⟩ := h1 r h0 hr
  refine ⟨a, b, ?_⟩
  have inj : ∀ i j, 0 ≤ i → i < j → j ≤ n → o i ≠ o j := fun i j g0 g1 g2 z => by
    have := h2 i j g0 g1 g2
    rw [z] at this
    exact LT_irr this
  have lo : r ≤ rk X n (o r) := cnt_inj (P := fun q => lb X n q (o r)) (f := o) r h0 _ (fun i g0 g1 => by
    obtain ⟨c, d⟩ := h1 i g0 (by omega)
    exact ⟨c, by omega, (lb_iff d b).mpr (h2 i r g0 g1 hr)⟩) (fun i j g0 g1 g2 => inj i j g0 g1 (by omega))
  have up : n + 1 - r ≤ cnt (fun q => !lb X n q (o r)) (n + 1) := cnt_inj (P := fun q => !lb X n q (o r)) (f := fun i => o (r + i)) (n + 1 - r) (by omega) _ (fun i g0 g1 => by
    obtain ⟨c, d⟩ := h1 (r + i) (by omega) (by omega)
    refine ⟨c, by omega, ?_⟩
    have : ¬ lb X n (o (r + i)) (o r) = true := fun z => by
      have z := (lb_iff d b).mp z
      by_cases hi : i = 0
      · subst hi
        rw [Int.add_zero] at z
        exact LT_irr z
      · exact LT_asym z (h2 r (r + i) h0 (by omega) (by omega))
    simpa using this) (fun i j g0 g1 g2 => inj _ _ (by omega) (by omega) (by omega))
  rw [cnt_not (by omega)] at up
  have e : rk X n (o r) = cnt (fun q => lb X n q (o r)) (n + 1) := rfl
  omega
