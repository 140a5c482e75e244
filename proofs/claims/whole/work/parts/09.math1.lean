section
/-- two points agree on the first n places -/
abbrev agr (n : Nat) (x y : Nat → Int32) : Prop := ∀ j, j < n → x j = y j
theorem agr.symm {n : Nat} {x y : Nat → Int32} (h : agr n x y) : agr n y x := fun j hj => (h j hj).symm
theorem agr.trans {n : Nat} {x y w : Nat → Int32} (h : agr n x y) (h2 : agr n y w) : agr n x w := fun j hj => (h j hj).trans (h2 j hj)
theorem agr.upd {n i : Nat} {x y : Nat → Int32} (h : agr n x y) (v : Int32) : agr n (upd x i v) (upd y i v) := fun j hj => by
  by_cases e : j = i
  · rw [e, pk_us, pk_us]
  · rw [pk_un e, pk_un e, h j hj]
theorem agr_upd {n i : Nat} {x : Nat → Int32} (v : Int32) (hi : n ≤ i) : agr n (upd x i v) x := fun j hj => pk_un (by omega)
theorem nx_out (lo hi : Nat → Int32) : ∀ (i : Nat) (x : Nat → Int32) (j : Nat), i ≤ j → nx lo hi i x j = x j
  | 0, _, _, _ => rfl
  | i + 1, x, j, h => by
    simp only [nx]
    split
    · exact pk_un (by omega)
    · rw [nx_out lo hi i _ j (by omega), pk_un (by omega)]
theorem nx_agr (lo hi : Nat → Int32) {n : Nat} : ∀ (i : Nat) (x y : Nat → Int32), i ≤ n → agr n x y → agr n (nx lo hi i x) (nx lo hi i y)
  | 0, _, _, _, h => h
  | i + 1, x, y, hin, h => by
    simp only [nx]
    rw [h i (by omega)]
    split
    · exact h.upd _
    · exact nx_agr lo hi i _ _ (by omega) (h.upd _)
/-- the points in their order: the last place runs fastest -/
def ptA (lo : Nat → Int32) (sz : Nat → Nat) : Nat → Nat → Nat → Int32
  | 0, _ => fun _ => 0
  | n + 1, p => upd (ptA lo sz n (p / sz n)) n (lo n + nI (p % sz n))
def prd (sz : Nat → Nat) : Nat → Nat
  | 0 => 1
  | n + 1 => prd sz n * sz n
/-- the ranges: n of them, of at most eight small values -/
def rng (n : Nat) (lo hi : Nat → Int32) (sz : Nat → Nat) : Prop := ∀ i, i < n → -20 ≤ (lo i).toInt ∧ (hi i).toInt ≤ 20 ∧ 1 ≤ sz i ∧ sz i ≤ 8 ∧ (hi i).toInt = (lo i).toInt + (sz i : Int) - 1
theorem i32_add_toInt {a b : Int32} (h1 : -2147483648 ≤ a.toInt + b.toInt) (h2 : a.toInt + b.toInt < 2147483648) : (a + b).toInt = a.toInt + b.toInt := by
  rw [Int32.toInt_add]
  exact Int.bmod_eq_of_le (by omega) (by omega)
theorem lo_add {n : Nat} {lo hi : Nat → Int32} {sz : Nat → Nat} (h : rng n lo hi sz) {i r : Nat} (hi' : i < n) (hr : r < sz i) : (lo i + nI r).toInt = (lo i).toInt + r := by
  obtain ⟨h1, h2, h3, h4, h5⟩ := h i hi'
  have e := nI_toInt (n := r) (by omega)
  rw [i32_add_toInt (by omega) (by omega), e]
theorem rng.le {n m : Nat} {lo hi : Nat → Int32} {sz : Nat → Nat} (h : rng n lo hi sz) (hm : m ≤ n) : rng m lo hi sz := fun i hi' => h i (by omega)
theorem pt_first (lo hi : Nat → Int32) (sz : Nat → Nat) : ∀ n, agr n lo (ptA lo sz n 0)
  | 0 => fun j hj => absurd hj (by omega)
  | n + 1 => fun j hj => by
    simp only [ptA]
    by_cases e : j = n
    · rw [e, pk_us, Nat.zero_mod, nI_0, Int32.add_zero]
    · rw [pk_un e, Nat.zero_div]
      exact pt_first lo hi sz n j (by omega)
theorem pt_next (lo hi : Nat → Int32) (sz : Nat → Nat) : ∀ (n p : Nat), rng n lo hi sz → p + 1 < prd sz n → agr n (nx lo hi n (ptA lo sz n p)) (ptA lo sz n (p + 1))
  | 0, p, _, h => absurd h (by simp [prd])
  | n + 1, p, hr, hp => by
    obtain ⟨b1, b2, b3, b4, b5⟩ := hr n (by omega)
    have hs : 0 < sz n := by omega
    have hm : p % sz n < sz n := Nat.mod_lt _ hs
    have hdm : sz n * (p / sz n) + p % sz n = p := Nat.div_add_mod p (sz n)
    have ex : ptA lo sz (n + 1) p = upd (ptA lo sz n (p / sz n)) n (lo n + nI (p % sz n)) := rfl
    have exn : ptA lo sz (n + 1) p n = lo n + nI (p % sz n) := by rw [ex, pk_us]
    have et : (ptA lo sz (n + 1) p n).toInt = (lo n).toInt + (p % sz n : Nat) := by rw [exn]; exact lo_add hr (by omega) hm
    simp only [nx]
    by_cases hc : p % sz n + 1 < sz n
    · have hlt : ptA lo sz (n + 1) p n < hi n := by
        rw [Int32.lt_iff_toInt_lt, et, b5]; omega
      rw [if_pos hlt]
      have hd : (p + 1) / sz n = p / sz n := by
        have : p + 1 = sz n * (p / sz n) + (p % sz n + 1) := by omega
        rw [this, Nat.mul_add_div hs, Nat.div_eq_of_lt hc, Nat.add_zero]
      have hmd : (p + 1) % sz n = p % sz n + 1 := by
        have : p + 1 = sz n * (p / sz n) + (p % sz n + 1) := by omega
        rw [this, Nat.mul_add_mod, Nat.mod_eq_of_lt hc]
      intro j hj
      have ex2 : ptA lo sz (n + 1) (p + 1) = upd (ptA lo sz n ((p + 1) / sz n)) n (lo n + nI ((p + 1) % sz n)) := rfl
      rw [ex2, hd, hmd]
      by_cases e : j = n
      · rw [e, pk_us, pk_us, exn, nI_succ, Int32.add_assoc]
      · rw [pk_un e, pk_un e, ex, pk_un e]
    · have hlt : ¬ ptA lo sz (n + 1) p n < hi n := by
        rw [Int32.lt_iff_toInt_lt, et, b5]; omega
      rw [if_neg hlt]
      have he : p + 1 = sz n * (p / sz n + 1) := by rw [Nat.mul_add, Nat.mul_one]; omega
      have hd : (p + 1) / sz n = p / sz n + 1 := by rw [he, Nat.mul_div_cancel_left _ hs]
      have hmd : (p + 1) % sz n = 0 := by rw [he, Nat.mul_mod_right]
      have hlt2 : p / sz n + 1 < prd sz n := by
        have h1 : sz n * (p / sz n + 1) < sz n * prd sz n := by rw [← he, Nat.mul_comm (sz n)]; exact hp
        exact Nat.lt_of_mul_lt_mul_left h1
      intro j hj
      have ex2 : ptA lo sz (n + 1) (p + 1) = upd (ptA lo sz n ((p + 1) / sz n)) n (lo n + nI ((p + 1) % sz n)) := rfl
      rw [ex2, hd, hmd]
      by_cases e : j = n
      · rw [e, pk_us, nx_out lo hi n _ n (Nat.le_refl n), pk_us, nI_0, Int32.add_zero]
      · rw [pk_un e]
        have hag : agr n (upd (ptA lo sz (n + 1) p) n (lo n)) (ptA lo sz n (p / sz n)) := fun t ht => by
          rw [pk_un (by omega), ex, pk_un (by omega)]
        rw [nx_agr lo hi n _ _ (Nat.le_refl n) hag j (by omega)]
        exact pt_next lo hi sz n _ (hr.le (by omega)) hlt2 j (by omega)
end
