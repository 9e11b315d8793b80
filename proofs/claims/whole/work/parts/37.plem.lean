/-! the same over states that differ in the scratch rows alone -/
theorem fi_cg {c d : Nat → Bool} : ∀ (k i : Nat), (∀ q, i ≤ q → q < i + k → c q = d q) → fi c k i = fi d k i
  | 0, _, _ => rfl
  | k + 1, i, h => by
    have e := h i (Nat.le_refl _) (by omega)
    by_cases q : c i = true
    · rw [fi_s q, fi_s (by rw [← e]; exact q)]
    · have q2 : c i = false := by cases z : c i with | false => rfl | true => exact absurd z q
      rw [fi_n q2, fi_n (by rw [← e]; exact q2)]
      exact fi_cg k (i + 1) (fun q h1 h2 => h q (by omega) (by omega))
theorem oE_x {I G : wI} (h : eqx I G) (r : Nat) (x : Int32) : oE G r x = oE I r x := by
  unfold oE
  rw [h 8 (by omega), h 9 (by omega)]
theorem rT_x {I G : wI} {n a g : Nat} (h : eqx I G) (hw : wfR I n) (ha : a < 12) : rT G n a g = rT I n a g := by
  refine fi_cg n 0 fun r _ hr => ?_
  unfold rc
  rw [oE_x h]
  by_cases q : oE I r (nI a) = -1
  · rw [decide_eq_false (fun z => z q)]; rfl
  · have h1 : (oE I r (nI a)).toNatClampNeg < 12 := (oE_nI hw (by omega) q).1
    rw [h 10 (by omega), h (35 + a) (by omega), h (35 + (oE I r (nI a)).toNatClampNeg) (by omega)]
theorem cf_x {I G : wI} (h : eqx I G) (len : Int32) (kind : Nat) (m : Int32) : cf G len kind m = cf I len kind m := by
  unfold cf
  rw [h 12 (by omega), h 13 (by omega)]
theorem ec_x {I G : wI} (h : eqx I G) (p m : Int32) : ec G p m = ec I p m := funext fun k => by
  unfold ec
  rw [h 16 (by omega), h 17 (by omega), h 18 (by omega)]
/-- the tariff and the lengths are in their ranges -/
def wT (I : wI) (nr : Nat) : Prop := (∀ r, r < nr → ∃ a, a ≤ 50 ∧ I 10 r = nI a) ∧ ∀ k, k < 3 → (∃ a, a ≤ 100 ∧ I 12 k = nI a) ∧ ∃ a, a ≤ 300 ∧ I 13 k = nI a
theorem cf_n {I : wI} {nr r kind : Nat} {m : Int32} (h : wT I nr) (hr : r < nr) (hk : kind < 3) : ∃ c, c ≤ 15000 ∧ cf I (I 10 r) kind m = nI c ∧ (I 10 r).toInt64 * (I 12 kind).toInt64 * (if bz m = true then I 13 kind else nI 100).toInt64 / 100 = lN c := by
  obtain ⟨a, ha, ea⟩ := h.1 r hr
  obtain ⟨⟨b, hb, eb⟩, ⟨c, hc, ec⟩⟩ := h.2 kind hk
  have hd : ∃ d, d ≤ 300 ∧ (if bz m = true then I 13 kind else nI 100) = nI d := by
    split
    · exact ⟨c, hc, ec⟩
    · exact ⟨100, by omega, rfl⟩
  obtain ⟨d, hd, ed⟩ := hd
  have h1 : a * b ≤ 50 * 100 := Nat.mul_le_mul ha hb
  have h2 : a * b * d ≤ 50 * 100 * 300 := Nat.mul_le_mul h1 hd
  refine ⟨a * b * d / 100, by omega, ?_, ?_⟩
  · unfold cf
    rw [ed, ea, eb, pk_mul, pk_mul, pk_div (by omega) (by omega) (by omega)]
  · rw [ed, ea, eb, nI_l (by omega), nI_l (by omega), nI_l (by omega), lN_mul, lN_mul, show (100 : Int64) = lN 100 from rfl, pk_lDiv (by omega) (by omega) (by omega)]
/-! the reading that comes next, by the model -/
def canR (I : wI) (p r : Nat) : Prop := I 20 r = nI p ∧ I 22 r = 0 ∧ I 73 r = 0
def nxR (I : wI) (n p k : Nat) (x : Int32) : Prop := (x = -1 ∧ ∀ r, k ≤ r → r < n → ¬ canR I p r) ∨ ∃ f, x = nI f ∧ k ≤ f ∧ f < n ∧ canR I p f ∧ ∀ r, k ≤ r → r < n → canR I p r → I 21 f < I 21 r ∨ (I 21 f = I 21 r ∧ f ≤ r)
theorem nxR_z (I : wI) (n p : Nat) : nxR I n p n (-1) := Or.inl ⟨rfl, fun r h1 h2 => by omega⟩
theorem nxR_n {I : wI} {n p j : Nat} {x : Int32} (hc : ¬ canR I p j) (h : nxR I n p (j + 1) x) : nxR I n p j x := by
  rcases h with ⟨h1, h2⟩ | ⟨f, h1, h2, h3, h4, h5⟩
  · refine Or.inl ⟨h1, fun r a b q => ?_⟩
    rcases Nat.lt_or_ge j r with z | z
    · exact h2 r z b q
    · exact hc (by rw [show j = r by omega]; exact q)
  · refine Or.inr ⟨f, h1, by omega, h3, h4, fun r a b q => ?_⟩
    rcases Nat.lt_or_ge j r with z | z
    · exact h5 r z b q
    · exact absurd (by rw [show j = r by omega]; exact q) hc
theorem nxR_0 {I : wI} {n p j : Nat} {x : Int32} (hj : j < n) (hn : n ≤ 100) (hc : canR I p j) (h : nxR I n p (j + 1) x) (hx : x = -1) : nxR I n p j (nI j) := by
  rcases h with ⟨h1, h2⟩ | ⟨f, h1, h2, h3, h4, h5⟩
  · refine Or.inr ⟨j, rfl, Nat.le_refl _, hj, hc, fun r a b q => ?_⟩
    rcases Nat.lt_or_ge j r with z | z
    · exact absurd q (h2 r z b)
    · rw [show r = j by omega]
      exact Or.inr ⟨rfl, Nat.le_refl _⟩
  · rw [h1] at hx
    exact absurd hx (nI_m1 (by omega))
theorem nxR_f {I : wI} {n p j f : Nat} {x : Int32} (hn : n ≤ 100) (h : nxR I n p (j + 1) x) (ex : x = nI f) (hf : f < n) : j + 1 ≤ f ∧ canR I p f ∧ ∀ r, j + 1 ≤ r → r < n → canR I p r → I 21 f < I 21 r ∨ (I 21 f = I 21 r ∧ f ≤ r) := by
  rcases h with ⟨h1, h2⟩ | ⟨g, h1, h2, h3, h4, h5⟩
  · rw [ex] at h1
    exact absurd h1 (nI_m1 (by omega))
  · have e : f = g := (nI_eq (by omega) (by omega)).mp (ex.symm.trans h1)
    subst e
    exact ⟨h2, h4, h5⟩
theorem nxR_k {I : wI} {n p j f : Nat} {x : Int32} (hn : n ≤ 100) (h : nxR I n p (j + 1) x) (ex : x = nI f) (hf : f < n) (hl : I 21 f < I 21 j) : nxR I n p j x := by
  obtain ⟨h2, h4, h5⟩ := nxR_f hn h ex hf
  refine Or.inr ⟨f, ex, by omega, hf, h4, fun r a b q => ?_⟩
  rcases Nat.lt_or_ge j r with z | z
  · exact h5 r z b q
  · rw [show r = j by omega]; exact Or.inl hl
theorem nxR_y {I : wI} {n p j f : Nat} {x : Int32} (hj : j < n) (hn : n ≤ 100) (hc : canR I p j) (h : nxR I n p (j + 1) x) (ex : x = nI f) (hf : f < n) (hl : ¬ I 21 f < I 21 j) : nxR I n p j (nI j) := by
  obtain ⟨h2, h4, h5⟩ := nxR_f hn h ex hf
  refine Or.inr ⟨j, rfl, Nat.le_refl _, hj, hc, fun r a b q => ?_⟩
  rcases Nat.lt_or_ge j r with z | z
  · have h6 := Int32.le_iff_toInt_le.mp (Int32.not_lt.mp hl)
    rw [Int32.lt_iff_toInt_lt, ← Int32.toInt_inj]
    rcases h5 r z b q with y | ⟨y, -⟩
    · have := Int32.lt_iff_toInt_lt.mp y
      omega
    · rw [y] at h6
      omega
  · rw [show r = j by omega]; exact Or.inr ⟨rfl, Nat.le_refl _⟩
