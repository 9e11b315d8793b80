/-! the model beside the class: what of the two is equal -/
def mV (V : wV) : Prop := V 8 = V 0 ∧ V 9 = V 1 ∧ V 10 = V 2 ∧ V 11 = V 3 ∧ V 12 = V 4 ∧ V 13 = V 5
def mI (I : wI) : Prop := I 51 = I 8 ∧ I 52 = I 9 ∧ I 53 = I 10 ∧ I 54 = I 11 ∧ I 56 = I 12 ∧ I 57 = I 13 ∧ I 58 = I 14 ∧ I 59 = I 15 ∧ I 64 = I 16 ∧ I 65 = I 17 ∧ I 66 = I 18 ∧ I 67 = I 19 ∧ I 68 = I 20 ∧ I 69 = I 21 ∧ I 70 = I 22
def mF (I : wI) : Prop := ∀ a b, a < 12 → b < 12 → I 55 (12 * a + b) = I (35 + a) b
theorem dn_x {k : Nat} {x : Int32} (hx : x = nI k - nI 1) (hc : ¬ x < 0) (hk : k ≤ 1000) : ∃ j, k = j + 1 ∧ x = nI j := by
  cases k with
  | zero => subst hx; exact absurd (by decide) hc
  | succ j => exact ⟨j, rfl, hx.trans (nI_s1 rfl)⟩
theorem dn_z {k : Nat} {x : Int32} (hx : x = nI k - nI 1) (hc : x < 0) (hk : k ≤ 1000) : k = 0 := by
  cases k with
  | zero => rfl
  | succ j =>
    rw [hx, nI_s1 (j := j) rfl] at hc
    exact absurd hc (nI_pos (by omega))
theorem dn_i (j : Nat) : nI j + Int32.ofInt (-1) = nI j - nI 1 := by
  have h : Int32.ofInt (-1) = - nI 1 := by decide
  rw [Int32.sub_eq_add_neg, h]
/-- in a range that ends one below g -/
theorem rg_i0 : (nI 0 - nI 1).toInt = -1 := by decide
set_option maxRecDepth 100000 in
theorem rg_in {x : Int32} {g : Nat} (hg : g ≤ 1000) : rgB x (nI 0) (nI g - nI 1) = inB x g := by
  unfold rgB inB
  rw [show decide (¬ x < nI 0) = decide (¬ x < 0) by rw [nI_0]]
  by_cases h : x < 0
  · rw [decide_eq_false (fun q => q h), Bool.false_and, Bool.false_and]
  · rw [decide_eq_true h, Bool.true_and, Bool.true_and]
    obtain ⟨j, hj, e⟩ := nI_of h
    subst e
    cases g with
    | zero =>
      rw [decide_eq_false (show ¬ nI j < nI 0 by rw [nI_0]; exact nI_pos hj)]
      have h2 : ¬ nI j ≤ nI 0 - nI 1 := fun q => by
        have h3 := Int32.le_iff_toInt_le.mp q
        rw [nI_toInt hj, rg_i0] at h3
        omega
      rw [decide_eq_false h2]
    | succ g =>
      rw [nI_s1 (j := g) rfl]
      have h1 := nI_leI hj (show g < 2 ^ 31 by omega)
      have h2 := nI_ltI hj (show g + 1 < 2 ^ 31 by omega)
      by_cases q : j ≤ g
      · rw [decide_eq_true (h1.mpr q), decide_eq_true (h2.mpr (by omega))]
      · rw [decide_eq_false (fun z => q (h1.mp z)), decide_eq_false (fun z => by have := h2.mp z; omega)]
theorem rg_in2 {x : Int32} {g : Nat} (hg : g ≤ 999) : rgB x (nI 0) (nI g) = inB x (g + 1) := by
  rw [← rg_in (g := g + 1) (by omega), nI_s1 (j := g) rfl]
/-- found from the last place down -/
theorem fi_d {c : Nat → Bool} {n j : Nat} (h : j < n) : fi c (n - j) j = if c j then nI j else fi c (n - (j + 1)) (j + 1) := by
  rw [show n - j = (n - (j + 1)) + 1 by omega]; rfl
theorem b10_t {b : Bool} (h : ¬ (if b = true then nI 1 else nI 0) = 0) : b = true := ite10_t h
theorem b10_f {b : Bool} (h : (if b = true then nI 1 else nI 0) = 0) : b = false := by
  have := ite10_f h
  cases b with
  | true => exact absurd rfl this
  | false => rfl
theorem b10_z (b : Bool) : (if b = true then nI 1 else nI 0) = 0 ∨ (if b = true then nI 1 else nI 0) = 1 := by
  cases b with
  | true => exact Or.inr rfl
  | false => exact Or.inl rfl
/-- a call of the model: with the code 0 it does what P says, else it writes the code alone -/
def mQ (tc : Nat) (rz : Option Value) (V : wV) (I : wI) (J : wJ) (P : wPo) : wPo := fun r V9 I9 J9 => (tc = 0 ∧ P r V9 I9 J9) ∨ (0 < tc ∧ r = rz ∧ V9 = upd V 7 (nI tc) ∧ I9 = I ∧ J9 = J)
theorem mQ_x {tc k : Nat} {rz : Option Value} {V : wV} {I : wI} {J : wJ} {P : wPo} (h : tc = k) (hk : 0 < k) : mQ tc rz V I J P rz (upd V 7 (nI k)) I J := by
  subst h
  exact Or.inr ⟨hk, rfl, rfl, rfl, rfl⟩
