theorem cxi_0 : cxi (fun _ => 0) 0 (fun _ => 0) (fun _ => 0) (fun _ => 0) (fun _ => 0) (iup (fun _ => 0) 0 (-2)) (fun _ => 0) := by
  have o0 : og (fun _ => 0) 0 0 = 0 := og_0 (by omega)
  have r0 : rk (fun _ => 0) 0 0 = 0 := rk_end (by omega)
  have c0 : cX (fun _ => 0) 0 0 = -2 := if_pos o0
  refine ⟨ag_0 (by omega), fun j a b => by omega, by omega, fun j a b => ?_, fun j a b => ?_, ag_0 (by omega), fun j a b => ?_, fun j a b => ?_⟩
  · rw [show j = 0 by omega]; exact o0.symm
  · rw [show j = 0 by omega]; exact r0.symm
  · rw [show j = 0 by omega, iup_eq rfl]; exact c0.symm
  · rw [show j = 0 by omega]
    show 0 = mpos mL0 (cX (fun _ => 0) 0 0)
    rw [c0]
    exact (mpos_eq (by omega) (by omega) (fun j a b => by omega) (Or.inr rfl)).symm
theorem og_00 : ag (fun _ => 0) (og (fun _ => 0) 0) (0 + 1) := fun j a b => by
  rw [show j = 0 by omega]; exact (og_0 (X := fun _ => 0) (n := 0) (by omega)).symm
theorem rvP_t {T : Int → Int} {t : Int} {X : Int → Int} {n k z t' n' : Int} {X' : Int → Int} (h : rvP T t X n k z t' X' n') (ht : 0 ≤ t ∧ t ≤ 96) : (0 ≤ t' ∧ t' ≤ 96) ∧ t' ≤ t := by
  rcases h with ⟨_, _, e, _, _⟩ | ⟨_, _, _, e, _, _⟩ | ⟨_, _, _, e, _, _⟩ <;> omega
theorem bt8_le {X : Int → Int} {k n : Int} (h : bt8 X n) (hk : k ≤ n) : bt8 X k := fun j a b => h j a (by omega)
theorem and31 (x : Int) : ∃ k : Int, 0 ≤ k ∧ k ≤ 31 ∧ iI x &&& iI 31 = iI k := by
  obtain ⟨j, hj, e⟩ := pk_andE (iI x) (m := iI 31) 5 (by decide)
  exact ⟨(j : Int), by omega, by omega, e.trans Int32.ofInt_eq_ofNat.symm⟩
def lbits (xs : Nat → Int32) (i : Int) : Int64 := ((iI (sx xs (i + 1))).toInt64 <<< ((iI 32).toInt64 &&& 63)) ||| ((iI (sx xs (i + 2))).toInt64 &&& 4294967295)
