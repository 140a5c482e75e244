section
variable {n P k a : Nat} {z : Int32} {lo hi B av al ah ac pt fd : Nat → Int32} {kn an : Int32} {lw s1 sd kd pa : Nat → Int32} {wd : Nat → Int64} {ao fo uo ho xo : Nat → Int32} {sz : Nat → Nat} {K : Nat → (Nat → Int32) → Bool}
theorem or_u {f : Nat → Int32} {k c d : Nat} {v : Int32} (hd : d < 7) (hc : c < 7) : oRow (upd f (7 * k + c) v) k d = if d = c then v else oRow f k d := by
  unfold oRow upd
  by_cases e : d = c
  · rw [if_pos e, if_pos (by omega)]
  · rw [if_neg e, if_neg (by omega)]
theorem or_u0 {f : Nat → Int32} {k d : Nat} {v : Int32} (hd : d < 7) : oRow (upd f (7 * k) v) k d = if d = 0 then v else oRow f k d := or_u (c := 0) hd (by decide)
theorem rk_u {pa f : Nat → Int32} {k c : Nat} {v : Int32} (h : ∀ r, r < k → ∀ j, j < 7 → f (7 * r + j) = pa (7 * r + j)) : ∀ r, r < k → ∀ j, j < 7 → (upd f (7 * k + c) v) (7 * r + j) = pa (7 * r + j) := fun r hr j hj => by
  rw [pk_un (by omega)]; exact h r hr j hj
set_option maxHeartbeats 4000000 in
theorem op_variable (I : INV n P k a z lo hi B av al ah ac kn an lw s1 sd kd pa wd ao fo uo ho sz K) {x y : Int32} {ra rb : Int32} {ua : XS} {ub : OS} (h1 : (fun (r : Int32) (u : XS) => (¬ vok x y ∧ r = -1 ∧ u = (n, P, k, a, z, lo, hi, B, av, al, ah, ac, pt, fd)) ∨ (vok x y ∧ ∃ v, 1 ≤ v ∧ v ≤ 8 ∧ y - x + 1 = nI v ∧ ((¬ (n < 8 ∧ P * v ≤ 4096) ∧ r = -2 ∧ u = (n, P, k, a, z, lo, hi, B, av, al, ah, ac, pt, fd)) ∨ (n < 8 ∧ P * v ≤ 4096 ∧ r = nI n ∧ ∃ Bn, spI v P 0 B Bn ∧ u = (n + 1, P * v, k, a, 0, upd lo n x, upd hi n y, Bn, av, al, ah, ac, pt, fd))))) ra ua) (h2 : (fun (r : Int32) (u : OS) => (¬ vok x y ∧ r = -1 ∧ u = (n, P, k, a, kn, an, lw, s1, sd, kd, pa, wd, ao, fo, uo, ho, xo)) ∨ (vok x y ∧ ∃ v, 1 ≤ v ∧ v ≤ 8 ∧ y - x + 1 = nI v ∧ ((¬ (n < 8 ∧ P * v ≤ 4096) ∧ r = -2 ∧ u = (n, P, k, a, kn, an, lw, s1, sd, kd, pa, wd, ao, fo, uo, ho, xo)) ∨ (n < 8 ∧ P * v ≤ 4096 ∧ r = nI n ∧ ∃ g : Nat → Int32, (∀ i : Nat, i < n → g i = sd i * nI v) ∧ u = (n + 1, P * v, k, a, 0, -1, upd lw n x, upd s1 n (nI v), upd g n 1, kd, pa, wd, ao, fo, uo, ho, xo))))) rb ub) : ra = rb ∧ IU ua ub := by
  rcases h1 with ⟨g1, rfl, rfl⟩ | ⟨g1, w, w1, w8, we, hh⟩ <;> rcases h2 with ⟨g2, rfl, rfl⟩ | ⟨g2, w', w1', w8', we', hh'⟩
  · exact ⟨rfl, IU.of I⟩
  · exact absurd g2 g1
  · exact absurd g1 g2
  · obtain rfl : w = w' := nI_ne (we.symm.trans we') (by omega) (by omega)
    rcases hh with ⟨q1, rfl, rfl⟩ | ⟨q1, q2, rfl, Bn, hI, rfl⟩ <;> rcases hh' with ⟨p1, rfl, rfl⟩ | ⟨p1, p2, rfl, g, hg, rfl⟩
    · exact ⟨rfl, IU.of I⟩
    · exact absurd ⟨p1, p2⟩ q1
    · exact absurd ⟨q1, q2⟩ p1
    · exact ⟨rfl, IU.of (I.var w1 w8 g1 we q1 q2 hI hg)⟩
set_option maxHeartbeats 4000000 in
theorem op_linear (I : INV n P k a z lo hi B av al ah ac kn an lw s1 sd kd pa wd ao fo uo ho sz K) {i fa j fb v fc bd : Int32} {ra rb : Int32} {ua : XS} {ub : OS} (h1 : (fun (r : Int32) (u : XS) => (¬ ((iva n i ∧ iva n j ∧ iva n v) ∧ wi fa 9 ∧ wi fb 9 ∧ wi fc 9 ∧ wi bd 1000) ∧ r = -1 ∧ u = (n, P, k, a, z, lo, hi, B, av, al, ah, ac, pt, fd)) ∨ (((iva n i ∧ iva n j ∧ iva n v) ∧ wi fa 9 ∧ wi fb 9 ∧ wi fc 9 ∧ wi bd 1000) ∧ addP (fun x => (decide (kLin i fa j fb v fc bd x))) n P k a z lo hi B av al ah ac pt fd r u)) ra ua) (h2 : (fun (r : Int32) (u : OS) => (¬ (iva n i ∧ iva n j ∧ iva n v ∧ wi3 fa (-9) 9 ∧ wi3 fb (-9) 9 ∧ wi3 fc (-9) 9 ∧ wi3 bd (-1000) 1000) ∧ r = -1 ∧ u = (n, P, k, a, kn, an, lw, s1, sd, kd, pa, wd, ao, fo, uo, ho, xo)) ∨ ((iva n i ∧ iva n j ∧ iva n v ∧ wi3 fa (-9) 9 ∧ wi3 fb (-9) 9 ∧ wi3 fc (-9) 9 ∧ wi3 bd (-1000) 1000) ∧ ((¬ k < 12 ∧ r = -2 ∧ u = (n, P, k, a, kn, an, lw, s1, sd, kd, pa, wd, ao, fo, uo, ho, xo)) ∨ (k < 12 ∧ r = nI k ∧ u = (n, P, k + 1, a, 0, -1, lw, s1, sd, upd kd k 0, upd (upd (upd (upd (upd (upd (upd (clr7 pa k) (7 * k + 0) i) (7 * k + 1) fa) (7 * k + 2) j) (7 * k + 3) fb) (7 * k + 4) v) (7 * k + 5) fc) (7 * k + 6) bd, vp_updL (vp_updL wd (2 * k) 0) (2 * k + 1) 0, ao, fo, uo, ho, xo))))) rb ub) : ra = rb ∧ IU ua ub := by
  rcases h1 with ⟨g1, rfl, rfl⟩ | ⟨g1, hh⟩ <;> rcases h2 with ⟨g2, rfl, rfl⟩ | ⟨g2, hh'⟩
  · exact ⟨rfl, IU.of I⟩
  · exact absurd (⟨⟨g2.1, g2.2.1, g2.2.2.1⟩, g2.2.2.2⟩) g1
  · exact absurd (⟨g1.1.1, g1.1.2.1, g1.1.2.2, g1.2⟩) g2
  · rcases hh with ⟨q1, rfl, rfl⟩ | ⟨q1, rfl, rfl⟩ <;> rcases hh' with ⟨q2, rfl, rfl⟩ | ⟨q2, rfl, rfl⟩
    · exact ⟨rfl, IU.of I⟩
    · exact absurd q2 q1
    · exact absurd q1 q2
    · skip
      have e0 : oRow (upd (upd (upd (upd (upd (upd (upd (clr7 pa k) (7 * k + 0) i) (7 * k + 1) fa) (7 * k + 2) j) (7 * k + 3) fb) (7 * k + 4) v) (7 * k + 5) fc) (7 * k + 6) bd) k 0 = i := by simp [or_u, or_u0]
      have e1 : oRow (upd (upd (upd (upd (upd (upd (upd (clr7 pa k) (7 * k + 0) i) (7 * k + 1) fa) (7 * k + 2) j) (7 * k + 3) fb) (7 * k + 4) v) (7 * k + 5) fc) (7 * k + 6) bd) k 1 = fa := by simp [or_u, or_u0]
      have e2 : oRow (upd (upd (upd (upd (upd (upd (upd (clr7 pa k) (7 * k + 0) i) (7 * k + 1) fa) (7 * k + 2) j) (7 * k + 3) fb) (7 * k + 4) v) (7 * k + 5) fc) (7 * k + 6) bd) k 2 = j := by simp [or_u, or_u0]
      have e3 : oRow (upd (upd (upd (upd (upd (upd (upd (clr7 pa k) (7 * k + 0) i) (7 * k + 1) fa) (7 * k + 2) j) (7 * k + 3) fb) (7 * k + 4) v) (7 * k + 5) fc) (7 * k + 6) bd) k 3 = fb := by simp [or_u, or_u0]
      have e4 : oRow (upd (upd (upd (upd (upd (upd (upd (clr7 pa k) (7 * k + 0) i) (7 * k + 1) fa) (7 * k + 2) j) (7 * k + 3) fb) (7 * k + 4) v) (7 * k + 5) fc) (7 * k + 6) bd) k 4 = v := by simp [or_u, or_u0]
      have e5 : oRow (upd (upd (upd (upd (upd (upd (upd (clr7 pa k) (7 * k + 0) i) (7 * k + 1) fa) (7 * k + 2) j) (7 * k + 3) fb) (7 * k + 4) v) (7 * k + 5) fc) (7 * k + 6) bd) k 5 = fc := by simp [or_u, or_u0]
      have e6 : oRow (upd (upd (upd (upd (upd (upd (upd (clr7 pa k) (7 * k + 0) i) (7 * k + 1) fa) (7 * k + 2) j) (7 * k + 3) fb) (7 * k + 4) v) (7 * k + 5) fc) (7 * k + 6) bd) k 6 = bd := by simp [or_u, or_u0]
      exact ⟨rfl, IU.of (I.add pt q1 (Or.inl ⟨rfl, ⟨by rw [e0]; exact g1.1.1, by rw [e2]; exact g1.1.2.1, by rw [e4]; exact g1.1.2.2⟩, by rw [e0, e1, e2, e3, e4, e5, e6]⟩) (rk_u (rk_u (rk_u (rk_u (rk_u (rk_u (rk_u (rk_u (rk_u (rk_u (rk_u (rk_u (rk_u (rk_u (fun _ _ _ _ => rfl))))))))))))))))⟩
set_option maxHeartbeats 4000000 in
theorem op_reified (I : INV n P k a z lo hi B av al ah ac kn an lw s1 sd kd pa wd ao fo uo ho sz K) {r1 i j c1 : Int32} {ra rb : Int32} {ua : XS} {ub : OS} (h1 : (fun (r : Int32) (u : XS) => (¬ (iv n r1 ∧ iv n i ∧ iv n j ∧ wi c1 100) ∧ r = -1 ∧ u = (n, P, k, a, z, lo, hi, B, av, al, ah, ac, pt, fd)) ∨ ((iv n r1 ∧ iv n i ∧ iv n j ∧ wi c1 100) ∧ addP (fun x => (decide (kRei r1 i j c1 x))) n P k a z lo hi B av al ah ac pt fd r u)) ra ua) (h2 : (fun (r : Int32) (u : OS) => (¬ (iv n r1 ∧ iv n i ∧ iv n j ∧ wi3 c1 (-100) 100) ∧ r = -1 ∧ u = (n, P, k, a, kn, an, lw, s1, sd, kd, pa, wd, ao, fo, uo, ho, xo)) ∨ ((iv n r1 ∧ iv n i ∧ iv n j ∧ wi3 c1 (-100) 100) ∧ ((¬ k < 12 ∧ r = -2 ∧ u = (n, P, k, a, kn, an, lw, s1, sd, kd, pa, wd, ao, fo, uo, ho, xo)) ∨ (k < 12 ∧ r = nI k ∧ u = (n, P, k + 1, a, 0, -1, lw, s1, sd, upd kd k 1, upd (upd (upd (upd (clr7 pa k) (7 * k + 0) r1) (7 * k + 1) i) (7 * k + 2) j) (7 * k + 3) c1, vp_updL (vp_updL wd (2 * k) 0) (2 * k + 1) 0, ao, fo, uo, ho, xo))))) rb ub) : ra = rb ∧ IU ua ub := by
  rcases h1 with ⟨g1, rfl, rfl⟩ | ⟨g1, hh⟩ <;> rcases h2 with ⟨g2, rfl, rfl⟩ | ⟨g2, hh'⟩
  · exact ⟨rfl, IU.of I⟩
  · exact absurd (g2) g1
  · exact absurd (g1) g2
  · rcases hh with ⟨q1, rfl, rfl⟩ | ⟨q1, rfl, rfl⟩ <;> rcases hh' with ⟨q2, rfl, rfl⟩ | ⟨q2, rfl, rfl⟩
    · exact ⟨rfl, IU.of I⟩
    · exact absurd q2 q1
    · exact absurd q1 q2
    · skip
      have e0 : oRow (upd (upd (upd (upd (clr7 pa k) (7 * k + 0) r1) (7 * k + 1) i) (7 * k + 2) j) (7 * k + 3) c1) k 0 = r1 := by simp [or_u, or_u0]
      have e1 : oRow (upd (upd (upd (upd (clr7 pa k) (7 * k + 0) r1) (7 * k + 1) i) (7 * k + 2) j) (7 * k + 3) c1) k 1 = i := by simp [or_u, or_u0]
      have e2 : oRow (upd (upd (upd (upd (clr7 pa k) (7 * k + 0) r1) (7 * k + 1) i) (7 * k + 2) j) (7 * k + 3) c1) k 2 = j := by simp [or_u, or_u0]
      have e3 : oRow (upd (upd (upd (upd (clr7 pa k) (7 * k + 0) r1) (7 * k + 1) i) (7 * k + 2) j) (7 * k + 3) c1) k 3 = c1 := by simp [or_u, or_u0]
      exact ⟨rfl, IU.of (I.add pt q1 (Or.inr (Or.inl ⟨rfl, ⟨by rw [e0]; exact g1.1, by rw [e1]; exact g1.2.1, by rw [e2]; exact g1.2.2.1⟩, by rw [e0, e1, e2, e3]⟩)) (rk_u (rk_u (rk_u (rk_u (rk_u (rk_u (rk_u (rk_u (rk_u (rk_u (rk_u (fun _ _ _ _ => rfl)))))))))))))⟩
set_option maxHeartbeats 4000000 in
theorem op_maximum (I : INV n P k a z lo hi B av al ah ac kn an lw s1 sd kd pa wd ao fo uo ho sz K) {r1 i j v : Int32} {ra rb : Int32} {ua : XS} {ub : OS} (h1 : (fun (r : Int32) (u : XS) => (¬ (iv n r1 ∧ iv n i ∧ iva n j ∧ iva n v) ∧ r = -1 ∧ u = (n, P, k, a, z, lo, hi, B, av, al, ah, ac, pt, fd)) ∨ ((iv n r1 ∧ iv n i ∧ iva n j ∧ iva n v) ∧ addP (fun x => (decide (kMax r1 i j v x))) n P k a z lo hi B av al ah ac pt fd r u)) ra ua) (h2 : (fun (r : Int32) (u : OS) => (¬ (iv n r1 ∧ iv n i ∧ iva n j ∧ iva n v) ∧ r = -1 ∧ u = (n, P, k, a, kn, an, lw, s1, sd, kd, pa, wd, ao, fo, uo, ho, xo)) ∨ ((iv n r1 ∧ iv n i ∧ iva n j ∧ iva n v) ∧ ((¬ k < 12 ∧ r = -2 ∧ u = (n, P, k, a, kn, an, lw, s1, sd, kd, pa, wd, ao, fo, uo, ho, xo)) ∨ (k < 12 ∧ r = nI k ∧ u = (n, P, k + 1, a, 0, -1, lw, s1, sd, upd kd k 2, upd (upd (upd (upd (clr7 pa k) (7 * k + 0) r1) (7 * k + 1) i) (7 * k + 2) j) (7 * k + 3) v, vp_updL (vp_updL wd (2 * k) 0) (2 * k + 1) 0, ao, fo, uo, ho, xo))))) rb ub) : ra = rb ∧ IU ua ub := by
  rcases h1 with ⟨g1, rfl, rfl⟩ | ⟨g1, hh⟩ <;> rcases h2 with ⟨g2, rfl, rfl⟩ | ⟨g2, hh'⟩
  · exact ⟨rfl, IU.of I⟩
  · exact absurd (g2) g1
  · exact absurd (g1) g2
  · rcases hh with ⟨q1, rfl, rfl⟩ | ⟨q1, rfl, rfl⟩ <;> rcases hh' with ⟨q2, rfl, rfl⟩ | ⟨q2, rfl, rfl⟩
    · exact ⟨rfl, IU.of I⟩
    · exact absurd q2 q1
    · exact absurd q1 q2
    · skip
      have e0 : oRow (upd (upd (upd (upd (clr7 pa k) (7 * k + 0) r1) (7 * k + 1) i) (7 * k + 2) j) (7 * k + 3) v) k 0 = r1 := by simp [or_u, or_u0]
      have e1 : oRow (upd (upd (upd (upd (clr7 pa k) (7 * k + 0) r1) (7 * k + 1) i) (7 * k + 2) j) (7 * k + 3) v) k 1 = i := by simp [or_u, or_u0]
      have e2 : oRow (upd (upd (upd (upd (clr7 pa k) (7 * k + 0) r1) (7 * k + 1) i) (7 * k + 2) j) (7 * k + 3) v) k 2 = j := by simp [or_u, or_u0]
      have e3 : oRow (upd (upd (upd (upd (clr7 pa k) (7 * k + 0) r1) (7 * k + 1) i) (7 * k + 2) j) (7 * k + 3) v) k 3 = v := by simp [or_u, or_u0]
      exact ⟨rfl, IU.of (I.add pt q1 (Or.inr (Or.inr (Or.inl ⟨rfl, ⟨by rw [e0]; exact g1.1, by rw [e1]; exact g1.2.1, by rw [e2]; exact g1.2.2.1, by rw [e3]; exact g1.2.2.2⟩, by rw [e0, e1, e2, e3]⟩))) (rk_u (rk_u (rk_u (rk_u (rk_u (rk_u (rk_u (rk_u (rk_u (rk_u (rk_u (fun _ _ _ _ => rfl)))))))))))))⟩
set_option maxHeartbeats 4000000 in
theorem op_element (I : INV n P k a z lo hi B av al ah ac kn an lw s1 sd kd pa wd ao fo uo ho sz K) {r1 i : Int32} {tb : Int64} {ra rb : Int32} {ua : XS} {ub : OS} (h1 : (fun (r : Int32) (u : XS) => (¬ (iv n r1 ∧ iv n i) ∧ r = -1 ∧ u = (n, P, k, a, z, lo, hi, B, av, al, ah, ac, pt, fd)) ∨ ((iv n r1 ∧ iv n i) ∧ addP (fun x => (decide (kEle r1 i tb x))) n P k a z lo hi B av al ah ac pt fd r u)) ra ua) (h2 : (fun (r : Int32) (u : OS) => (¬ (iv n r1 ∧ iv n i) ∧ r = -1 ∧ u = (n, P, k, a, kn, an, lw, s1, sd, kd, pa, wd, ao, fo, uo, ho, xo)) ∨ ((iv n r1 ∧ iv n i) ∧ ((¬ k < 12 ∧ r = -2 ∧ u = (n, P, k, a, kn, an, lw, s1, sd, kd, pa, wd, ao, fo, uo, ho, xo)) ∨ (k < 12 ∧ r = nI k ∧ u = (n, P, k + 1, a, 0, -1, lw, s1, sd, upd kd k 3, upd (upd (clr7 pa k) (7 * k + 0) r1) (7 * k + 1) i, vp_updL (vp_updL wd (2 * k) tb) (2 * k + 1) 0, ao, fo, uo, ho, xo))))) rb ub) : ra = rb ∧ IU ua ub := by
  rcases h1 with ⟨g1, rfl, rfl⟩ | ⟨g1, hh⟩ <;> rcases h2 with ⟨g2, rfl, rfl⟩ | ⟨g2, hh'⟩
  · exact ⟨rfl, IU.of I⟩
  · exact absurd (g2) g1
  · exact absurd (g1) g2
  · rcases hh with ⟨q1, rfl, rfl⟩ | ⟨q1, rfl, rfl⟩ <;> rcases hh' with ⟨q2, rfl, rfl⟩ | ⟨q2, rfl, rfl⟩
    · exact ⟨rfl, IU.of I⟩
    · exact absurd q2 q1
    · exact absurd q1 q2
    · skip
      have e0 : oRow (upd (upd (clr7 pa k) (7 * k + 0) r1) (7 * k + 1) i) k 0 = r1 := by simp [or_u, or_u0]
      have e1 : oRow (upd (upd (clr7 pa k) (7 * k + 0) r1) (7 * k + 1) i) k 1 = i := by simp [or_u, or_u0]
      exact ⟨rfl, IU.of (I.add pt q1 (Or.inr (Or.inr (Or.inr (Or.inl ⟨rfl, ⟨by rw [e0]; exact g1.1, by rw [e1]; exact g1.2⟩, by rw [e0, e1]⟩)))) (rk_u (rk_u (rk_u (rk_u (rk_u (rk_u (rk_u (rk_u (rk_u (fun _ _ _ _ => rfl)))))))))))⟩
set_option maxHeartbeats 4000000 in
theorem op_different (I : INV n P k a z lo hi B av al ah ac kn an lw s1 sd kd pa wd ao fo uo ho sz K) {t1 : Int32} {ra rb : Int32} {ua : XS} {ub : OS} (h1 : (fun (r : Int32) (u : XS) => (¬ (ivs n t1) ∧ r = -1 ∧ u = (n, P, k, a, z, lo, hi, B, av, al, ah, ac, pt, fd)) ∨ ((ivs n t1) ∧ addP (fun x => (kDif t1 x 8 0 0)) n P k a z lo hi B av al ah ac pt fd r u)) ra ua) (h2 : (fun (r : Int32) (u : OS) => (¬ (ivs n t1) ∧ r = -1 ∧ u = (n, P, k, a, kn, an, lw, s1, sd, kd, pa, wd, ao, fo, uo, ho, xo)) ∨ ((ivs n t1) ∧ ((¬ k < 12 ∧ r = -2 ∧ u = (n, P, k, a, kn, an, lw, s1, sd, kd, pa, wd, ao, fo, uo, ho, xo)) ∨ (k < 12 ∧ r = nI k ∧ u = (n, P, k + 1, a, 0, -1, lw, s1, sd, upd kd k 4, upd (clr7 pa k) (7 * k + 0) t1, vp_updL (vp_updL wd (2 * k) 0) (2 * k + 1) 0, ao, fo, uo, ho, xo))))) rb ub) : ra = rb ∧ IU ua ub := by
  rcases h1 with ⟨g1, rfl, rfl⟩ | ⟨g1, hh⟩ <;> rcases h2 with ⟨g2, rfl, rfl⟩ | ⟨g2, hh'⟩
  · exact ⟨rfl, IU.of I⟩
  · exact absurd (g2) g1
  · exact absurd (g1) g2
  · rcases hh with ⟨q1, rfl, rfl⟩ | ⟨q1, rfl, rfl⟩ <;> rcases hh' with ⟨q2, rfl, rfl⟩ | ⟨q2, rfl, rfl⟩
    · exact ⟨rfl, IU.of I⟩
    · exact absurd q2 q1
    · exact absurd q1 q2
    · skip
      have e0 : oRow (upd (clr7 pa k) (7 * k + 0) t1) k 0 = t1 := by simp [or_u, or_u0]
      exact ⟨rfl, IU.of (I.add pt q1 (Or.inr (Or.inr (Or.inr (Or.inr (Or.inl ⟨rfl, by rw [e0]; exact g1, by rw [e0]⟩))))) (rk_u (rk_u (rk_u (rk_u (rk_u (rk_u (rk_u (rk_u (fun _ _ _ _ => rfl))))))))))⟩
set_option maxHeartbeats 4000000 in
theorem op_cumulative (I : INV n P k a z lo hi B av al ah ac kn an lw s1 sd kd pa wd ao fo uo ho sz K) {t1 : Int32} {du ne : Int64} {cp : Int32} {ra rb : Int32} {ua : XS} {ub : OS} (h1 : (fun (r : Int32) (u : XS) => (¬ (ivs n t1 ∧ ¬ cp < 0 ∧ ¬ 100 < cp) ∧ r = -1 ∧ u = (n, P, k, a, z, lo, hi, B, av, al, ah, ac, pt, fd)) ∨ ((ivs n t1 ∧ ¬ cp < 0 ∧ ¬ 100 < cp) ∧ addP (fun x => (kCum t1 du ne cp x 8 0)) n P k a z lo hi B av al ah ac pt fd r u)) ra ua) (h2 : (fun (r : Int32) (u : OS) => (¬ (ivs n t1 ∧ wi3 cp 0 100) ∧ r = -1 ∧ u = (n, P, k, a, kn, an, lw, s1, sd, kd, pa, wd, ao, fo, uo, ho, xo)) ∨ ((ivs n t1 ∧ wi3 cp 0 100) ∧ ((¬ k < 12 ∧ r = -2 ∧ u = (n, P, k, a, kn, an, lw, s1, sd, kd, pa, wd, ao, fo, uo, ho, xo)) ∨ (k < 12 ∧ r = nI k ∧ u = (n, P, k + 1, a, 0, -1, lw, s1, sd, upd kd k 5, upd (upd (clr7 pa k) (7 * k + 0) t1) (7 * k + 1) cp, vp_updL (vp_updL wd (2 * k) du) (2 * k + 1) ne, ao, fo, uo, ho, xo))))) rb ub) : ra = rb ∧ IU ua ub := by
  rcases h1 with ⟨g1, rfl, rfl⟩ | ⟨g1, hh⟩ <;> rcases h2 with ⟨g2, rfl, rfl⟩ | ⟨g2, hh'⟩
  · exact ⟨rfl, IU.of I⟩
  · exact absurd (g2) g1
  · exact absurd (g1) g2
  · rcases hh with ⟨q1, rfl, rfl⟩ | ⟨q1, rfl, rfl⟩ <;> rcases hh' with ⟨q2, rfl, rfl⟩ | ⟨q2, rfl, rfl⟩
    · exact ⟨rfl, IU.of I⟩
    · exact absurd q2 q1
    · exact absurd q1 q2
    · skip
      have e0 : oRow (upd (upd (clr7 pa k) (7 * k + 0) t1) (7 * k + 1) cp) k 0 = t1 := by simp [or_u, or_u0]
      have e1 : oRow (upd (upd (clr7 pa k) (7 * k + 0) t1) (7 * k + 1) cp) k 1 = cp := by simp [or_u, or_u0]
      exact ⟨rfl, IU.of (I.add pt q1 (Or.inr (Or.inr (Or.inr (Or.inr (Or.inr (Or.inl ⟨rfl, by rw [e0]; exact g1.1, by rw [e0, e1]⟩)))))) (rk_u (rk_u (rk_u (rk_u (rk_u (rk_u (rk_u (rk_u (rk_u (fun _ _ _ _ => rfl)))))))))))⟩
set_option maxHeartbeats 4000000 in
theorem op_clause (I : INV n P k a z lo hi B av al ah ac kn an lw s1 sd kd pa wd ao fo uo ho sz K) {i w1 j w2 v w3 how : Int32} {ra rb : Int32} {ua : XS} {ub : OS} (h1 : (fun (r : Int32) (u : XS) => (¬ ((iva n i ∧ iva n j ∧ iva n v) ∧ wi w1 100 ∧ wi w2 100 ∧ wi w3 100 ∧ ¬ how < 0 ∧ ¬ 7 < how) ∧ r = -1 ∧ u = (n, P, k, a, z, lo, hi, B, av, al, ah, ac, pt, fd)) ∨ (((iva n i ∧ iva n j ∧ iva n v) ∧ wi w1 100 ∧ wi w2 100 ∧ wi w3 100 ∧ ¬ how < 0 ∧ ¬ 7 < how) ∧ addP (fun x => (decide (kCla i w1 j w2 v w3 how x))) n P k a z lo hi B av al ah ac pt fd r u)) ra ua) (h2 : (fun (r : Int32) (u : OS) => (¬ (iva n i ∧ iva n j ∧ iva n v ∧ wi3 w1 (-100) 100 ∧ wi3 w2 (-100) 100 ∧ wi3 w3 (-100) 100 ∧ wi3 how 0 7) ∧ r = -1 ∧ u = (n, P, k, a, kn, an, lw, s1, sd, kd, pa, wd, ao, fo, uo, ho, xo)) ∨ ((iva n i ∧ iva n j ∧ iva n v ∧ wi3 w1 (-100) 100 ∧ wi3 w2 (-100) 100 ∧ wi3 w3 (-100) 100 ∧ wi3 how 0 7) ∧ ((¬ k < 12 ∧ r = -2 ∧ u = (n, P, k, a, kn, an, lw, s1, sd, kd, pa, wd, ao, fo, uo, ho, xo)) ∨ (k < 12 ∧ r = nI k ∧ u = (n, P, k + 1, a, 0, -1, lw, s1, sd, upd kd k 6, upd (upd (upd (upd (upd (upd (upd (clr7 pa k) (7 * k + 0) i) (7 * k + 1) w1) (7 * k + 2) j) (7 * k + 3) w2) (7 * k + 4) v) (7 * k + 5) w3) (7 * k + 6) how, vp_updL (vp_updL wd (2 * k) 0) (2 * k + 1) 0, ao, fo, uo, ho, xo))))) rb ub) : ra = rb ∧ IU ua ub := by
  rcases h1 with ⟨g1, rfl, rfl⟩ | ⟨g1, hh⟩ <;> rcases h2 with ⟨g2, rfl, rfl⟩ | ⟨g2, hh'⟩
  · exact ⟨rfl, IU.of I⟩
  · exact absurd (⟨⟨g2.1, g2.2.1, g2.2.2.1⟩, g2.2.2.2⟩) g1
  · exact absurd (⟨g1.1.1, g1.1.2.1, g1.1.2.2, g1.2⟩) g2
  · rcases hh with ⟨q1, rfl, rfl⟩ | ⟨q1, rfl, rfl⟩ <;> rcases hh' with ⟨q2, rfl, rfl⟩ | ⟨q2, rfl, rfl⟩
    · exact ⟨rfl, IU.of I⟩
    · exact absurd q2 q1
    · exact absurd q1 q2
    · skip
      have e0 : oRow (upd (upd (upd (upd (upd (upd (upd (clr7 pa k) (7 * k + 0) i) (7 * k + 1) w1) (7 * k + 2) j) (7 * k + 3) w2) (7 * k + 4) v) (7 * k + 5) w3) (7 * k + 6) how) k 0 = i := by simp [or_u, or_u0]
      have e1 : oRow (upd (upd (upd (upd (upd (upd (upd (clr7 pa k) (7 * k + 0) i) (7 * k + 1) w1) (7 * k + 2) j) (7 * k + 3) w2) (7 * k + 4) v) (7 * k + 5) w3) (7 * k + 6) how) k 1 = w1 := by simp [or_u, or_u0]
      have e2 : oRow (upd (upd (upd (upd (upd (upd (upd (clr7 pa k) (7 * k + 0) i) (7 * k + 1) w1) (7 * k + 2) j) (7 * k + 3) w2) (7 * k + 4) v) (7 * k + 5) w3) (7 * k + 6) how) k 2 = j := by simp [or_u, or_u0]
      have e3 : oRow (upd (upd (upd (upd (upd (upd (upd (clr7 pa k) (7 * k + 0) i) (7 * k + 1) w1) (7 * k + 2) j) (7 * k + 3) w2) (7 * k + 4) v) (7 * k + 5) w3) (7 * k + 6) how) k 3 = w2 := by simp [or_u, or_u0]
      have e4 : oRow (upd (upd (upd (upd (upd (upd (upd (clr7 pa k) (7 * k + 0) i) (7 * k + 1) w1) (7 * k + 2) j) (7 * k + 3) w2) (7 * k + 4) v) (7 * k + 5) w3) (7 * k + 6) how) k 4 = v := by simp [or_u, or_u0]
      have e5 : oRow (upd (upd (upd (upd (upd (upd (upd (clr7 pa k) (7 * k + 0) i) (7 * k + 1) w1) (7 * k + 2) j) (7 * k + 3) w2) (7 * k + 4) v) (7 * k + 5) w3) (7 * k + 6) how) k 5 = w3 := by simp [or_u, or_u0]
      have e6 : oRow (upd (upd (upd (upd (upd (upd (upd (clr7 pa k) (7 * k + 0) i) (7 * k + 1) w1) (7 * k + 2) j) (7 * k + 3) w2) (7 * k + 4) v) (7 * k + 5) w3) (7 * k + 6) how) k 6 = how := by simp [or_u, or_u0]
      exact ⟨rfl, IU.of (I.add pt q1 (Or.inr (Or.inr (Or.inr (Or.inr (Or.inr (Or.inr (⟨rfl, ⟨by rw [e0]; exact g1.1.1, by rw [e2]; exact g1.1.2.1, by rw [e4]; exact g1.1.2.2⟩, by rw [e0, e1, e2, e3, e4, e5, e6]⟩))))))) (rk_u (rk_u (rk_u (rk_u (rk_u (rk_u (rk_u (rk_u (rk_u (rk_u (rk_u (rk_u (rk_u (rk_u (fun _ _ _ _ => rfl))))))))))))))))⟩
set_option maxHeartbeats 4000000 in
theorem op_drop (I : INV n P k a z lo hi B av al ah ac kn an lw s1 sd kd pa wd ao fo uo ho sz K)  {ra rb : Int32} {ua : XS} {ub : OS} (h1 : (fun (r : Int32) (u : XS) => drP n P k a z lo hi B av al ah ac pt fd r u) ra ua) (h2 : (fun (r : Int32) (u : OS) => (k = 0 ∧ r = 0 ∧ u = (n, P, k, a, kn, an, lw, s1, sd, kd, pa, wd, ao, fo, uo, ho, xo)) ∨ (∃ b, k = b + 1 ∧ r = 1 ∧ u = (n, P, b, a, 0, -1, lw, s1, sd, kd, pa, wd, ao, fo, uo, ho, xo))) rb ub) : ra = rb ∧ IU ua ub := by
  rcases h1 with ⟨g1, rfl, rfl⟩ | ⟨b, g1, rfl, rfl⟩ <;> rcases h2 with ⟨g2, rfl, rfl⟩ | ⟨b', g2, rfl, rfl⟩
  · exact ⟨rfl, IU.of I⟩
  · omega
  · omega
  · obtain rfl : b = b' := by omega
    subst g1
    exact ⟨rfl, IU.of I.drop⟩
set_option maxHeartbeats 4000000 in
theorem op_retract (I : INV n P k a z lo hi B av al ah ac kn an lw s1 sd kd pa wd ao fo uo ho sz K)  {ra rb : Int32} {ua : XS} {ub : OS} (h1 : (fun (r : Int32) (u : XS) => (a = 0 ∧ r = 0 ∧ u = (n, P, k, a, z, lo, hi, B, av, al, ah, ac, pt, fd)) ∨ (∃ b, a = b + 1 ∧ r = 1 ∧ u = (n, P, k, b, 0, lo, hi, B, av, al, ah, ac, pt, fd))) ra ua) (h2 : (fun (r : Int32) (u : OS) => (a = 0 ∧ r = 0 ∧ u = (n, P, k, a, kn, an, lw, s1, sd, kd, pa, wd, ao, fo, uo, ho, xo)) ∨ (∃ b, a = b + 1 ∧ r = 1 ∧ u = (n, P, k, b, 0, -1, lw, s1, sd, kd, pa, wd, ao, fo, uo, ho, xo))) rb ub) : ra = rb ∧ IU ua ub := by
  rcases h1 with ⟨g1, rfl, rfl⟩ | ⟨b, g1, rfl, rfl⟩ <;> rcases h2 with ⟨g2, rfl, rfl⟩ | ⟨b', g2, rfl, rfl⟩
  · exact ⟨rfl, IU.of I⟩
  · omega
  · omega
  · obtain rfl : b = b' := by omega
    subst g1
    exact ⟨rfl, IU.of I.ret⟩
set_option maxHeartbeats 4000000 in
theorem op_assume (I : INV n P k a z lo hi B av al ah ac kn an lw s1 sd kd pa wd ao fo uo ho sz K) {i x y : Int32} {ra rb : Int32} {ua : XS} {ub : OS} (h1 : (fun (r : Int32) (u : XS) => (¬ (iv n i ∧ a < 8) ∧ r = 0 ∧ u = (n, P, k, a, z, lo, hi, B, av, al, ah, ac, pt, fd)) ∨ (iv n i ∧ a < 8 ∧ r = 1 ∧ u = (n, P, k, a + 1, 0, lo, hi, B, upd av a i, upd al a x, upd ah a y, ac, pt, fd))) ra ua) (h2 : (fun (r : Int32) (u : OS) => (¬ (iv n i ∧ a < 8) ∧ r = 0 ∧ u = (n, P, k, a, kn, an, lw, s1, sd, kd, pa, wd, ao, fo, uo, ho, xo)) ∨ (iv n i ∧ a < 8 ∧ r = 1 ∧ u = (n, P, k, a + 1, 0, -1, lw, s1, sd, kd, pa, wd, upd ao a i, upd fo a x, upd uo a y, ho, xo))) rb ub) : ra = rb ∧ IU ua ub := by
  rcases h1 with ⟨g1, rfl, rfl⟩ | ⟨g1, g3, rfl, rfl⟩ <;> rcases h2 with ⟨g2, rfl, rfl⟩ | ⟨g2, g4, rfl, rfl⟩
  · exact ⟨rfl, IU.of I⟩
  · exact absurd ⟨g2, g4⟩ g1
  · exact absurd ⟨g1, g3⟩ g2
  · exact ⟨rfl, IU.of (I.asm g1 g3)⟩
set_option maxHeartbeats 4000000 in
theorem op_solve (I : INV n P k a z lo hi B av al ah ac kn an lw s1 sd kd pa wd ao fo uo ho sz K)  {ra rb : Int32} {ua : XS} {ub : OS} (h1 : (fun (r : Int32) (u : XS) => r = zb (srF n P a lo hi B av al ah pt fd 0 0).1 ∧ u = (n, P, k, a, zb (srF n P a lo hi B av al ah pt fd 0 0).1, lo, hi, B, av, al, ah, if (srF n P a lo hi B av al ah pt fd 0 0).1 = true then va_cpy (srF n P a lo hi B av al ah pt fd 0 0).2.2 ac 0 0 n else ac, (srF n P a lo hi B av al ah pt fd 0 0).2.1, (srF n P a lo hi B av al ah pt fd 0 0).2.2)) ra ua) (h2 : (fun (r : Int32) (u : OS) => ∃ (kn9 an9 : Int32) (ho9 xo9 : Nat → Int32), kn9 = 1 ∧ (∀ p9, p9 < P → lkOk n k a lw s1 sd kd pa wd ao fo uo ho9 p9) ∧ ((∃ p9, p9 < P ∧ an9 = nI p9 ∧ r = 1 ∧ fst9 lw s1 sd ho9 (-1) 0 p9 ∧ ∀ p8, p8 < p9 → ¬ fst9 lw s1 sd ho9 (-1) 0 p8) ∨ (an9 = -1 ∧ r = 0 ∧ ∀ p9, p9 < P → ¬ fst9 lw s1 sd ho9 (-1) 0 p9)) ∧ u = (n, P, k, a, kn9, an9, lw, s1, sd, kd, pa, wd, ao, fo, uo, ho9, xo9)) rb ub) : ra = rb ∧ IU ua ub := by
  obtain ⟨rfl, rfl⟩ := h1
  obtain ⟨kn9, an9, ho9, xo9, rfl, hlk, hfr, rfl⟩ := h2
  have hs := I.sol hlk
  obtain ⟨c1, c2⟩ := I.srch pt fd (i := 0) (w := 0) (Or.inr rfl) (Or.inl rfl)
  rcases hfr with ⟨p9, hp9, rfl, rfl, f1, f2⟩ | ⟨rfl, rfl, f⟩
  · have s9 := (hs p9 hp9).mp f1.1
    cases hc : (srF n P a lo hi B av al ah pt fd 0 0).1
    · exact absurd s9 (c1 hc p9 hp9)
    · obtain ⟨b, hb, hag⟩ := c2 hc
      have hbp : b = p9 := by
        rcases Nat.lt_trichotomy b p9 with e | e | e
        · exact absurd ⟨(hs b hb.1).mpr hb.2.1, Or.inl (by decide)⟩ (f2 b e)
        · exact e
        · have q := hb.2.2.2 p9 e s9
          simp only [Int32.zero_mul] at q
          exact absurd q (by decide)
      subst hbp
      exact ⟨rfl, IU.of ((I.lk0 hlk).ans (Or.inr ⟨rfl, b, hp9, rfl, by rw [if_pos rfl]; exact (cpy_agr n _ ac).trans hag⟩))⟩
  · cases hc : (srF n P a lo hi B av al ah pt fd 0 0).1
    · exact ⟨rfl, IU.of ((I.lk0 hlk).ans (Or.inl ⟨rfl, by decide⟩))⟩
    · obtain ⟨b, hb, hag⟩ := c2 hc
      exact absurd ⟨(hs b hb.1).mpr hb.2.1, Or.inl (by decide)⟩ (f b hb.1)
set_option maxHeartbeats 4000000 in
theorem op_best (I : INV n P k a z lo hi B av al ah ac kn an lw s1 sd kd pa wd ao fo uo ho sz K) {i z9 w : Int32} (hzw : (z9 = 0 ∧ w = 1) ∨ (z9 = 1 ∧ w = -1)) {ra rb : Int32} {ua : XS} {ub : OS} (h1 : (fun (r : Int32) (u : XS) => (¬ iv n i ∧ r = 0 ∧ u = (n, P, k, a, z, lo, hi, B, av, al, ah, ac, pt, fd)) ∨ (iv n i ∧ r = zb (srF n P a lo hi B av al ah pt fd i w).1 ∧ u = (n, P, k, a, zb (srF n P a lo hi B av al ah pt fd i w).1, lo, hi, B, av, al, ah, if (srF n P a lo hi B av al ah pt fd i w).1 = true then va_cpy (srF n P a lo hi B av al ah pt fd i w).2.2 ac 0 0 n else ac, (srF n P a lo hi B av al ah pt fd i w).2.1, (srF n P a lo hi B av al ah pt fd i w).2.2))) ra ua) (h2 : (fun (r : Int32) (u : OS) => (¬ iv n i ∧ r = 0 ∧ u = (n, P, k, a, kn, an, lw, s1, sd, kd, pa, wd, ao, fo, uo, ho, xo)) ∨ (iv n i ∧ ∃ hoE : Nat → Int32, (∀ p9, p9 < P → lkOk n k a lw s1 sd kd pa wd ao fo uo hoE p9) ∧ ∃ (kn9 an9 : Int32) (ho9 xo9 : Nat → Int32), kn9 = 1 ∧ (∀ p9, p9 < P → lkOk n k a lw s1 sd kd pa wd ao fo uo ho9 p9) ∧ ((exF hoE (fun p7 => vIn lw s1 sd (nI p7) i.toNatClampNeg) z9 P 0 1000 = 1000 ∧ an9 = -1 ∧ r = 0) ∨ (¬ exF hoE (fun p7 => vIn lw s1 sd (nI p7) i.toNatClampNeg) z9 P 0 1000 = 1000 ∧ ((∃ p9, p9 < P ∧ an9 = nI p9 ∧ r = 1 ∧ fst9 lw s1 sd ho9 i (exF hoE (fun p7 => vIn lw s1 sd (nI p7) i.toNatClampNeg) z9 P 0 1000) p9 ∧ ∀ p8, p8 < p9 → ¬ fst9 lw s1 sd ho9 i (exF hoE (fun p7 => vIn lw s1 sd (nI p7) i.toNatClampNeg) z9 P 0 1000) p8) ∨ (an9 = -1 ∧ r = 0 ∧ ∀ p9, p9 < P → ¬ fst9 lw s1 sd ho9 i (exF hoE (fun p7 => vIn lw s1 sd (nI p7) i.toNatClampNeg) z9 P 0 1000) p9)))) ∧ u = (n, P, k, a, kn9, an9, lw, s1, sd, kd, pa, wd, ao, fo, uo, ho9, xo9))) rb ub) : ra = rb ∧ IU ua ub := by
  rcases h1 with ⟨g1, rfl, rfl⟩ | ⟨g1, rfl, rfl⟩ <;> rcases h2 with ⟨g2, rfl, rfl⟩ | ⟨g2, hoE, hlkE, kn9, an9, ho9, xo9, rfl, hlk, hfr, rfl⟩
  · exact ⟨rfl, IU.of I⟩
  · exact absurd g2 g1
  · exact absurd g1 g2
  · have hs := I.sol hlk
    have hmw : (z9 = 0 ∧ w = 1) ∨ (¬ z9 = 0 ∧ w = -1) := hzw.elim Or.inl (fun h => Or.inr ⟨by rw [h.1]; decide, h.2⟩)
    have hin := iv_lt g1 I.1.1
    have hv : ∀ p, p < P → vIn lw s1 sd (nI p) i.toNatClampNeg = ptA lo sz n p i.toNatClampNeg := fun p hp => vIn_eq I.1.2.2.2.2.2 (by have := I.1.2.2.2.1; have := I.1.2.2.2.2.1; omega) hin (by have := I.1.2.2.2.2.1; omega) (I.2.1 _ hin).1 (I.2.1 _ hin).2.1 (I.2.1 _ hin).2.2
    rcases I.ext pt fd (mo := z9) (w := w) g1 hmw hlkE with ⟨q1, q2, q3⟩ | ⟨q1, q2, b, q3, q4, q5⟩
    · rcases hfr with ⟨f1, rfl, rfl⟩ | ⟨f1, f2⟩
      · rw [q1]
        exact ⟨rfl, IU.of ((I.lk0 hlk).ans (Or.inl ⟨rfl, by decide⟩))⟩
      · exact absurd q2 f1
    · rcases hfr with ⟨f1, rfl, rfl⟩ | ⟨f1, f2⟩
      · exact absurd f1 q2
      · have fb9 : fst9 lw s1 sd ho9 i (exF hoE (fun p7 => vIn lw s1 sd (nI p7) i.toNatClampNeg) z9 P 0 1000) b := ⟨(hs b q3.1).mpr q3.2.1, Or.inr (by rw [q5]; exact hv b q3.1)⟩
        rcases f2 with ⟨p9, hp9, rfl, rfl, f3, f4⟩ | ⟨rfl, rfl, f3⟩
        · have s9 := (hs p9 hp9).mp f3.1
          have e9 : ptA lo sz n p9 i.toNatClampNeg = ptA lo sz n b i.toNatClampNeg := by
            rw [← q5, ← hv p9 hp9]
            exact f3.2.resolve_left g1.1
          have hb2 : bst P (slv a n lo B av al ah sz) (fun p => w * ptA lo sz n p i.toNatClampNeg) p9 := by
            refine ⟨hp9, s9, fun p hp hsp => ?_, fun p hp hsp => ?_⟩
            · show w * ptA lo sz n p9 i.toNatClampNeg ≤ _
              rw [e9]
              exact q3.2.2.1 p hp hsp
            · have hpP : p < P := by omega
              have q6 := q3.2.2.1 p hpP hsp
              show w * ptA lo sz n p9 i.toNatClampNeg < w * ptA lo sz n p i.toNatClampNeg
              rw [e9]
              rcases Nat.lt_or_ge b p9 with hlt | hge
              · exact absurd fb9 (f4 b hlt)
              · exact q3.2.2.2 p (by omega) hsp
          obtain rfl : b = p9 := bst_uniq q3 hb2
          rw [q1]
          exact ⟨rfl, IU.of ((I.lk0 hlk).ans (Or.inr ⟨rfl, b, hp9, rfl, by rw [if_pos rfl]; exact (cpy_agr n _ ac).trans q4⟩))⟩
        · exact absurd fb9 (f3 b q3.1)
set_option maxHeartbeats 4000000 in
theorem op_least (I : INV n P k a z lo hi B av al ah ac kn an lw s1 sd kd pa wd ao fo uo ho sz K) {i : Int32} {ra rb : Int32} {ua : XS} {ub : OS} (h1 : (fun (r : Int32) (u : XS) => (¬ iv n i ∧ r = 1000 ∧ u = (n, P, k, a, z, lo, hi, B, av, al, ah, ac, pt, fd)) ∨ (iv n i ∧ r = (if (srF n P a lo hi B av al ah pt fd i 1).1 = true then (srF n P a lo hi B av al ah pt fd i 1).2.2 i.toNatClampNeg else 1000) ∧ u = (n, P, k, a, z, lo, hi, B, av, al, ah, ac, (srF n P a lo hi B av al ah pt fd i 1).2.1, (srF n P a lo hi B av al ah pt fd i 1).2.2))) ra ua) (h2 : (fun (r : Int32) (u : OS) => (¬ iv n i ∧ r = 1000 ∧ u = (n, P, k, a, kn, an, lw, s1, sd, kd, pa, wd, ao, fo, uo, ho, xo)) ∨ (iv n i ∧ ∃ (kn9 : Int32) (ho9 xo9 : Nat → Int32), kn9 = 1 ∧ (∀ p9, p9 < P → lkOk n k a lw s1 sd kd pa wd ao fo uo ho9 p9) ∧ r = exF ho9 (fun p7 => vIn lw s1 sd (nI p7) i.toNatClampNeg) 0 P 0 1000 ∧ u = (n, P, k, a, kn9, an, lw, s1, sd, kd, pa, wd, ao, fo, uo, ho9, xo9))) rb ub) : ra = rb ∧ IU ua ub := by
  rcases h1 with ⟨g1, rfl, rfl⟩ | ⟨g1, rfl, rfl⟩ <;> rcases h2 with ⟨g2, rfl, rfl⟩ | ⟨g2, kn9, ho9, xo9, rfl, hlk, rfl, rfl⟩
  · exact ⟨rfl, IU.of I⟩
  · exact absurd g2 g1
  · exact absurd g1 g2
  · rcases I.ext pt fd (mo := 0) (w := 1) g1 (Or.inl ⟨rfl, rfl⟩) hlk with ⟨q1, q2, q3⟩ | ⟨q1, q2, b, q3, q4, q5⟩
    · exact ⟨by rw [q1, q2]; rfl, IU.of (I.lk0 hlk)⟩
    · exact ⟨by rw [q1, q5, if_pos rfl]; exact q4 _ (iv_lt g1 I.1.1), IU.of (I.lk0 hlk)⟩
set_option maxHeartbeats 4000000 in
theorem op_greatest (I : INV n P k a z lo hi B av al ah ac kn an lw s1 sd kd pa wd ao fo uo ho sz K) {i : Int32} {ra rb : Int32} {ua : XS} {ub : OS} (h1 : (fun (r : Int32) (u : XS) => (¬ iv n i ∧ r = 1000 ∧ u = (n, P, k, a, z, lo, hi, B, av, al, ah, ac, pt, fd)) ∨ (iv n i ∧ r = (if (srF n P a lo hi B av al ah pt fd i (-1)).1 = true then (srF n P a lo hi B av al ah pt fd i (-1)).2.2 i.toNatClampNeg else 1000) ∧ u = (n, P, k, a, z, lo, hi, B, av, al, ah, ac, (srF n P a lo hi B av al ah pt fd i (-1)).2.1, (srF n P a lo hi B av al ah pt fd i (-1)).2.2))) ra ua) (h2 : (fun (r : Int32) (u : OS) => (¬ iv n i ∧ r = 1000 ∧ u = (n, P, k, a, kn, an, lw, s1, sd, kd, pa, wd, ao, fo, uo, ho, xo)) ∨ (iv n i ∧ ∃ (kn9 : Int32) (ho9 xo9 : Nat → Int32), kn9 = 1 ∧ (∀ p9, p9 < P → lkOk n k a lw s1 sd kd pa wd ao fo uo ho9 p9) ∧ r = exF ho9 (fun p7 => vIn lw s1 sd (nI p7) i.toNatClampNeg) 1 P 0 1000 ∧ u = (n, P, k, a, kn9, an, lw, s1, sd, kd, pa, wd, ao, fo, uo, ho9, xo9))) rb ub) : ra = rb ∧ IU ua ub := by
  rcases h1 with ⟨g1, rfl, rfl⟩ | ⟨g1, rfl, rfl⟩ <;> rcases h2 with ⟨g2, rfl, rfl⟩ | ⟨g2, kn9, ho9, xo9, rfl, hlk, rfl, rfl⟩
  · exact ⟨rfl, IU.of I⟩
  · exact absurd g2 g1
  · exact absurd g1 g2
  · rcases I.ext pt fd (mo := 1) (w := -1) g1 (Or.inr ⟨by decide, rfl⟩) hlk with ⟨q1, q2, q3⟩ | ⟨q1, q2, b, q3, q4, q5⟩
    · exact ⟨by rw [q1, q2]; rfl, IU.of (I.lk0 hlk)⟩
    · exact ⟨by rw [q1, q5, if_pos rfl]; exact q4 _ (iv_lt g1 I.1.1), IU.of (I.lk0 hlk)⟩
set_option maxHeartbeats 4000000 in
theorem op_implies (I : INV n P k a z lo hi B av al ah ac kn an lw s1 sd kd pa wd ao fo uo ho sz K) {i v : Int32} {ra rb : Int32} {ua : XS} {ub : OS} (h1 : (fun (r : Int32) (u : XS) => (¬ iv n i ∧ r = 0 ∧ u = (n, P, k, a, z, lo, hi, B, av, al, ah, ac, pt, fd)) ∨ (iv n i ∧ r = zb (decide ((srF n P a lo hi B av al ah pt fd i (-1)).1 = true → ¬ v < (srF n P a lo hi B av al ah pt fd i (-1)).2.2 i.toNatClampNeg)) ∧ u = (n, P, k, a, z, lo, hi, B, av, al, ah, ac, (srF n P a lo hi B av al ah pt fd i (-1)).2.1, (srF n P a lo hi B av al ah pt fd i (-1)).2.2))) ra ua) (h2 : (fun (r : Int32) (u : OS) => (¬ iv n i ∧ r = 0 ∧ u = (n, P, k, a, kn, an, lw, s1, sd, kd, pa, wd, ao, fo, uo, ho, xo)) ∨ (iv n i ∧ ∃ (kn9 : Int32) (ho9 xo9 : Nat → Int32), kn9 = 1 ∧ (∀ p9, p9 < P → lkOk n k a lw s1 sd kd pa wd ao fo uo ho9 p9) ∧ r = zb (decide (exF ho9 (fun p7 => vIn lw s1 sd (nI p7) i.toNatClampNeg) 1 P 0 1000 = 1000 ∨ ¬ v < exF ho9 (fun p7 => vIn lw s1 sd (nI p7) i.toNatClampNeg) 1 P 0 1000)) ∧ u = (n, P, k, a, kn9, an, lw, s1, sd, kd, pa, wd, ao, fo, uo, ho9, xo9))) rb ub) : ra = rb ∧ IU ua ub := by
  rcases h1 with ⟨g1, rfl, rfl⟩ | ⟨g1, rfl, rfl⟩ <;> rcases h2 with ⟨g2, rfl, rfl⟩ | ⟨g2, kn9, ho9, xo9, rfl, hlk, rfl, rfl⟩
  · exact ⟨rfl, IU.of I⟩
  · exact absurd g2 g1
  · exact absurd g1 g2
  · refine ⟨congrArg zb (dec_iff ?_), IU.of (I.lk0 hlk)⟩
    rcases I.ext pt fd (mo := 1) (w := -1) g1 (Or.inr ⟨by decide, rfl⟩) hlk with ⟨q1, q2, q3⟩ | ⟨q1, q2, b, q3, q4, q5⟩
    · rw [q1, q2]
      exact ⟨fun _ => Or.inl rfl, fun _ h => absurd h (by decide)⟩
    · have q6 := q4 _ (iv_lt g1 I.1.1)
      rw [q1, q5, ← q6]
      constructor
      · intro h; exact Or.inr (h rfl)
      · rintro (h | h) _
        · rw [q5, ← q6] at q2; exact absurd h q2
        · exact h
theorem op_value (I : INV n P k a z lo hi B av al ah ac kn an lw s1 sd kd pa wd ao fo uo ho sz K) {i ra rb : Int32} (h1 : (fun (r : Int32) => r = if ¬ z = 0 ∧ iv n i then ac i.toNatClampNeg else 1000) ra) (h2 : (fun (r : Int32) => r = if ¬ an < 0 ∧ iv n i then vIn lw s1 sd an i.toNatClampNeg else 1000) rb) : ra = rb := by
  have h1 : ra = if ¬ z = 0 ∧ iv n i then ac i.toNatClampNeg else 1000 := h1
  have h2 : rb = if ¬ an < 0 ∧ iv n i then vIn lw s1 sd an i.toNatClampNeg else 1000 := h2
  rw [h1, h2]
  by_cases hi' : iv n i
  · have hin := iv_lt hi' I.1.1
    rcases I.2.2.2.2.2.2 with ⟨e1, e2⟩ | ⟨e1, p, hp, e2, e3⟩
    · rw [if_neg (fun q => q.1 e1), if_neg (fun q => q.1 e2)]
    · rw [if_pos ⟨by rw [e1]; decide, hi'⟩, if_pos ⟨by rw [e2]; exact nI_pos (by have := I.1.2.2.2.1; omega), hi'⟩, e2, e3 _ hin]
      exact (vIn_eq I.1.2.2.2.2.2 (by have := I.1.2.2.2.1; have := I.1.2.2.2.2.1; omega) hin (by have := I.1.2.2.2.2.1; omega) (I.2.1 _ hin).1 (I.2.1 _ hin).2.1 (I.2.1 _ hin).2.2).symm
  · rw [if_neg (fun q => hi' q.2), if_neg (fun q => hi' q.2)]
end
