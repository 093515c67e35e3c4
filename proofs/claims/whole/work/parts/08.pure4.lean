/-! what the calls do to the three rows: typed (T, t), text (X, n), pattern (Pt, m) -/
def gv (T : Int → Int) (k : Int) : Int → Int := fun j => if j < k then T j else if j = k then -2 else T (j - 1)
theorem gv_cok {T : Int → Int} {t k : Int} (hb : bt8 T t) (h0 : 0 ≤ k) (h1 : k ≤ t) : cok (gv T k) t k := by
  refine ⟨h0, h1, ?_, fun j g0 g1 hj => ?_⟩
  · simp [gv]
  · simp only [gv]
    split
    · exact hb j g0 (by omega)
    · exact hb (j - 1) (by omega) (by omega)
theorem cok_rng {col : Int → Int} {N k : Int} (h : cok col N k) : ∀ j, 0 ≤ j → j ≤ N → -2 ≤ col j ∧ col j ≤ 255 := by
  intro j h0 h1
  by_cases e : j = k
  · rw [e, h.2.2.1]; omega
  · have := h.2.2.2 j h0 h1 e; omega
theorem cok_k {col : Int → Int} {N k j : Int} (h : cok col N k) (h0 : 0 ≤ j) (h1 : j ≤ N) : col j = -2 ↔ j = k := by
  constructor
  · intro z
    refine Classical.byContradiction fun e => ?_
    have := h.2.2.2 j h0 h1 e; omega
  · intro z
    rw [z]; exact h.2.2.1
/-- the byte that type takes at i -/
def tb (bits : Int64) (i : Int) : Int := (((bits.toUInt64 >>> ((iI (8 * i)).toInt64.toUInt64 &&& Int64.toUInt64 63)).toInt64).toInt32 &&& iI 255).toInt
theorem tb_cls (bits : Int64) (i : Int) : ((bits.toUInt64 >>> ((iI (8 * i)).toInt64.toUInt64 &&& Int64.toUInt64 63)).toInt64).toInt32 &&& iI 255 = iI (tb bits i) := iI_of _
theorem tb_rng (bits : Int64) (i : Int) : 0 ≤ tb bits i ∧ tb bits i ≤ 255 := by
  unfold tb
  generalize ((bits.toUInt64 >>> ((iI (8 * i)).toInt64.toUInt64 &&& Int64.toUInt64 63)).toInt64).toInt32 = x
  rw [pk_and x (m := iI 255) 8 (by decide), nI_toInt (by omega)]
  omega
def tyR (t nn : Int) : Int := if nn < 1 ∨ 8 < nn then -1 else if 96 - t < nn then -3 else t + nn
def tyN (t nn : Int) : Int := if nn < 1 ∨ 8 < nn then t else if 96 - t < nn then t else t + nn
def tyG (T : Int → Int) (t : Int) (bits : Int64) (nn : Int) : Int → Int := fun j => if j < t then T j else tb bits (nn - 1 - (j - t))
theorem tyG_bt {T : Int → Int} {t n' nn : Int} {bits : Int64} (h : bt8 T t) : bt8 (tyG T t bits nn) n' := by
  intro j g0 g1
  simp only [tyG]
  split
  · exact h j g0 (by assumption)
  · exact tb_rng _ _
theorem tyN_rng {t nn : Int} (h0 : 0 ≤ t) (h1 : t ≤ 96) : 0 ≤ tyN t nn ∧ tyN t nn ≤ 96 := by
  unfold tyN
  split
  · omega
  · split <;> omega
def exR (m b : Int) : Int := if b < 0 ∨ 256 ≤ b then -1 else if 96 ≤ m then -3 else 0
def exN (m b : Int) : Int := if exR m b = 0 then m + 1 else m
def exG (Pt : Int → Int) (m b : Int) : Int → Int := if exR m b = 0 then (fun j => if j = 0 then b else Pt (j - 1)) else Pt
theorem exG_bt {Pt : Int → Int} {m b : Int} (h : bt8 Pt m) : bt8 (exG Pt m b) (exN m b) := by
  intro j g0 g1
  unfold exG exN at *
  by_cases e : exR m b = 0
  · rw [if_pos e] at *
    have hb : ¬ (b < 0 ∨ 256 ≤ b) := fun z => by unfold exR at e; rw [if_pos z] at e; omega
    show 0 ≤ (if j = 0 then b else Pt (j - 1)) ∧ (if j = 0 then b else Pt (j - 1)) ≤ 255
    split
    · omega
    · exact h (j - 1) (by omega) (by omega)
  · rw [if_neg e] at *
    exact h j g0 g1
theorem exN_rng {m b : Int} (h0 : 0 ≤ m) (h1 : m ≤ 96) : 0 ≤ exN m b ∧ exN m b ≤ 96 := by
  by_cases e : exR m b = 0
  · have hm : ¬ 96 ≤ m := fun z => by
      unfold exR at e
      by_cases hb : b < 0 ∨ 256 ≤ b
      · rw [if_pos hb] at e; omega
      · rw [if_neg hb, if_pos z] at e; omega
    simp only [exN, if_pos e]; omega
  · simp only [exN, if_neg e]; omega
theorem ag_refl {f : Int → Int} {n : Int} : ag f f n := fun _ _ _ => rfl
def cxi (X : Int → Int) (n : Int) (fX sa ro co cl nu : Int → Int) : Prop := ag fX X n ∧ bt8 X n ∧ (0 ≤ n ∧ n ≤ 96) ∧ ag sa (og X n) (n + 1) ∧ ag ro (rk X n) (n + 1) ∧ ag co (cm X n) n ∧ ag cl (cX X n) (n + 1) ∧ ag nu (mN (cX X n)) (n + 1)
def rvP (T : Int → Int) (t : Int) (X : Int → Int) (n k z t' : Int) (X' : Int → Int) (n' : Int) : Prop :=
  (¬ (0 ≤ k ∧ k ≤ t) ∧ z = -1 ∧ t' = t ∧ X' = X ∧ n' = n) ∨ ((0 ≤ k ∧ k ≤ t) ∧ wgood (gv T k) t ∧ z = t ∧ t' = 0 ∧ X' = xt (gv T k) t ∧ n' = t) ∨ ((0 ≤ k ∧ k ≤ t) ∧ ¬ wgood (gv T k) t ∧ z = -4 ∧ t' = 0 ∧ X' = X ∧ n' = n)
theorem rvP_fun {T : Int → Int} {t : Int} {X : Int → Int} {n k z t' n' : Int} {X' : Int → Int} {z2 t2 n2 : Int} {X2 : Int → Int} (h : rvP T t X n k z t' X' n') (h2 : rvP T t X n k z2 t2 X2 n2) : z = z2 ∧ t' = t2 ∧ X' = X2 ∧ n' = n2 := by
  rcases h with ⟨a, rfl, rfl, rfl, rfl⟩ | ⟨a, b, rfl, rfl, rfl, rfl⟩ | ⟨a, b, rfl, rfl, rfl, rfl⟩ <;> rcases h2 with ⟨c, rfl, rfl, rfl, rfl⟩ | ⟨c, d, rfl, rfl, rfl, rfl⟩ | ⟨c, d, rfl, rfl, rfl, rfl⟩
  · exact ⟨rfl, rfl, rfl, rfl⟩
  · exact absurd c a
  · exact absurd c a
  · exact absurd a c
  · exact ⟨rfl, rfl, rfl, rfl⟩
  · exact absurd b d
  · exact absurd a c
  · exact absurd d b
  · exact ⟨rfl, rfl, rfl, rfl⟩
def ps (w : Int) : Int := if w = -2 then -1 else w
noncomputable def rpt (X : Int → Int) (n : Int) : Int := if (rb (cm X n) (fun r => min (og X n r) (og X n (r + 1))) n).1 = 0 then 0 else 128 * (rb (cm X n) (fun r => min (og X n r) (og X n (r + 1))) n).1 + (rb (cm X n) (fun r => min (og X n r) (og X n (r + 1))) n).2
theorem rb_rng {c q : Int → Int} {n B : Int} (hB : 0 ≤ B) (hc : ∀ j, 0 ≤ j → j < n → 0 ≤ c j ∧ c j ≤ B) (hp : ∀ j, 0 ≤ j → j < n → 0 ≤ q j ∧ q j ≤ B) : ∀ k, 0 ≤ k → k ≤ n → 0 ≤ (rb c q k).1 ∧ (rb c q k).1 ≤ B ∧ 0 ≤ (rb c q k).2 ∧ (rb c q k).2 ≤ B := by
  intro k hk
  refine up_ind (C := fun k => k ≤ n → 0 ≤ (rb c q k).1 ∧ (rb c q k).1 ≤ B ∧ 0 ≤ (rb c q k).2 ∧ (rb c q k).2 ≤ B) (fun _ => by rw [rb_0]; exact ⟨Int.le_refl 0, hB, Int.le_refl 0, hB⟩) ?_ k hk
  intro k hk ih h
  rw [rb_s hk]
  have a := hc k hk (by omega)
  have b := hp k hk (by omega)
  have i := ih (by omega)
  split
  · exact ⟨a.1, a.2, b.1, b.2⟩
  · exact i
theorem cm_rng {X : Int → Int} {n r : Int} (h0 : 0 ≤ r) (h1 : r < n) : 0 ≤ cm X n r ∧ cm X n r ≤ n := by
  have a := og_rng (X := X) (n := n) h0 (by omega)
  have b := og_rng (X := X) (n := n) (r := r + 1) (by omega) (by omega)
  obtain ⟨p1, p2, _⟩ := al_spec (f := X) (g := X) (n := n) (m := n) (p := og X n r) (q := og X n (r + 1)) a.2 b.2
  have e : cm X n r = al X n X n (og X n r) (og X n (r + 1)) := rfl
  omega
theorem al_rng {f g : Int → Int} {n m p q : Int} (hp : p ≤ n) (hq : q ≤ m) : 0 ≤ al f n g m p q ∧ p + al f n g m p q ≤ n ∧ q + al f n g m p q ≤ m := by
  obtain ⟨h1, h2, h3, _⟩ := al_spec (f := f) (g := g) hp hq
  exact ⟨h1, h2, h3⟩
theorem mx_rng {F : Int → Int} {n B : Int} (hB : 0 ≤ B) (h : ∀ j, 0 ≤ j → j < n → F j ≤ B) : ∀ k, 0 ≤ k → k ≤ n → 0 ≤ mx F k ∧ mx F k ≤ B := by
  intro k hk
  refine up_ind (C := fun k => k ≤ n → 0 ≤ mx F k ∧ mx F k ≤ B) (fun _ => by rw [mx_0]; omega) ?_ k hk
  intro k hk ih hkn
  rw [mx_s hk]
  have a := h k hk (by omega)
  have i := ih (by omega)
  omega
