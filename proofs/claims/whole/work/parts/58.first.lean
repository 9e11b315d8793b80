/-! the first world: what the law's three news leave, and what holds of it -/
def kG (D : va_G) (cI cZ cJ cQ : ClassId) (h0 x qt qp qr qj qa y z : Nat) (ro rt rp rr rj ra rm : Nat → Nat) : wG := (D, (fun k => match k with | 0 => x | 1 => ro 0 | 2 => qt | 3 => qp | 4 => qr | 5 => qj | 6 => qa | 7 => y | 8 => ro 1 | 9 => ro 2 | 10 => ro 3 | 11 => ro 4 | 12 => rt 0 | 13 => rt 1 | 14 => rp 0 | 15 => rp 1 | 16 => rp 2 | 17 => rp 3 | 18 => rp 4 | 19 => rr 0 | 20 => rr 1 | 21 => rr 2 | 22 => rr 3 | 23 => rr 4 | 24 => rj 0 | 25 => rj 1 | 26 => rj 2 | 27 => rj 4 | 28 => rj 5 | 29 => ra 0 | 30 => ra 1 | 31 => ra 2 | 32 => ra 3 | 33 => ro 5 | 34 => rj 3 | 35 => ro 6 | 36 => ro 7 | 37 => ro 8 | 38 => ro 9 | 39 => ro 10 | 40 => ro 11 | 41 => ro 12 | 42 => ro 13 | 43 => ro 14 | 44 => ro 15 | 45 => ro 16 | 46 => ro 17 | 47 => rj 6 | 48 => rj 7 | 49 => rj 8 | 50 => rj 9 | 51 => rm 0 | 52 => rm 1 | 53 => rm 2 | 54 => rm 3 | 55 => rm 4 | 56 => rm 5 | 57 => rm 6 | 58 => rm 7 | 59 => rm 8 | 60 => rm 9 | 61 => rm 10 | 62 => rm 11 | 63 => rm 12 | 64 => rm 13 | 65 => rm 14 | 66 => rm 15 | 67 => rm 16 | 68 => rm 17 | 69 => rm 18 | 70 => rm 19 | 71 => rm 20 | 72 => rm 21 | 73 => rm 22 | 74 => rm 23 | 75 => rm 24 | 76 => rm 25 | 77 => rm 26 | 78 => rm 27 | 79 => rm 28 | 80 => z | _ => 0), h0, (fun k => match k with | 0 => cI | 1 => cZ | 2 => cJ | _ => cQ))
def kV : wV := fun k => match k with | 3 => nI 5000 | 11 => nI 5000 | _ => 0
def kI : wI := fun k => if k = 12 ∨ k = 56 then kF (nI 10) 3 else if k = 13 ∨ k = 57 then kF (nI 150) 3 else if k = 15 ∨ k = 59 then kF (-1) 10 else if 35 ≤ k ∧ k < 47 then kDX 12 0 (k - 35) else fun _ => 0
def kJ : wJ := fun _ _ => 0
def kW9 (cI cZ cJ cQ : ClassId) (x qt qp qr qj qa y z : Nat) (ro rt rp rr rj ra rm : Nat → Nat) : va_W := ((([] : va_W) ++ kW6 cI cZ cJ cQ x qt qp qr qj qa ro rt rp rr rj ra) ++ kW7 cI cZ cJ y rm) ++ [aJ z cJ 1]
def kPl : List Nat := [0, 1, 19, 22, 28, 34, 45, 50, 2, 3, 4, 5, 20, 21, 23, 24, 25, 26, 27, 29, 30, 31, 32, 33, 35, 36, 37, 43, 44, 46, 47, 48, 49, 6, 38, 7, 8, 9, 10, 11, 12, 13, 14, 15, 16, 17, 18, 39, 40, 41, 42, 51, 52, 53, 54, 55, 56, 57, 58, 59, 60, 61, 62, 63, 64, 65, 66, 67, 68, 69, 70, 71, 72, 73, 74, 75, 76, 77, 78, 79, 80]

theorem kI_d {g : Nat} (hg : g < 12) : kI (35 + g) = kDX 12 0 g := by
  unfold kI
  rw [if_neg (by omega), if_neg (by omega), if_neg (by omega), if_pos (by omega), show 35 + g - 35 = g by omega]
theorem kDX_v {g t : Nat} (hg : g < 12) (ht : t < 12) : kDX 12 0 g t = if g = t then nI 0 else nI 1000000 := by
  unfold kDX
  rw [if_pos (show (g < 12 ∧ t < 12) ∨ (g = 12 ∧ t < 0) by omega)]
theorem kI_0 {k : Nat} (h : k ≠ 12 ∧ k ≠ 56 ∧ k ≠ 13 ∧ k ≠ 57 ∧ k ≠ 15 ∧ k ≠ 59 ∧ (k < 35 ∨ 47 ≤ k)) : kI k = fun _ => 0 := by
  unfold kI
  rw [if_neg (by omega), if_neg (by omega), if_neg (by omega), if_neg (by omega)]
theorem kI_f {k : Nat} (h : k = 12 ∨ k = 56) : kI k = kF (nI 10) 3 := by
  unfold kI
  rw [if_pos h]
theorem kI_g {k : Nat} (h : k = 13 ∨ k = 57) : kI k = kF (nI 150) 3 := by
  unfold kI
  rw [if_neg (by omega), if_pos h]
theorem kI_h {k : Nat} (h : k = 15 ∨ k = 59) : kI k = kF (-1) 10 := by
  unfold kI
  rw [if_neg (by omega), if_neg (by omega), if_pos h]
theorem kdG : dG 0 (fO kI) (fP kI) (fL kI) (fD kI) := by
  have hD : ∀ g t, g < 12 → t < 12 → fD kI g t = if g = t then 0 else 1000000 := fun g t hg ht => by
    show (kI (35 + g) t).toInt = _
    rw [kI_d hg, kDX_v hg ht]
    by_cases e : g = t
    · rw [if_pos e, if_pos e]; decide
    · rw [if_neg e, if_neg e]; decide
  intro g hg
  refine ⟨⟨?_, fun t ht => ?_, fun r hr => absurd hr (Nat.not_lt_zero _)⟩, fun f hf t ht => ?_⟩
  · rw [hD g g hg hg, if_pos rfl]
    exact Int.le_refl 0
  · rw [hD g t hg ht]
    by_cases e : g = t
    · rw [if_pos e]; decide
    · rw [if_neg e]; decide
  · rw [hD g t hg ht]
    by_cases e : g = t
    · subst e
      rw [if_pos rfl]
      exact hf.1
    · rw [if_neg e]
      exact hf.2.1 t ht
/-- the invariant holds at first -/
theorem kInv : Inv kV kI kJ := by
  have n0 : ∀ {r : Nat}, r < 0 → False := fun h => Nat.not_lt_zero _ h
  have vz : ∀ n, 0 < n → n < 2 ^ 31 → vp_in (0 : Int32) n := fun n h1 h2 => by rw [← nI_0]; exact vp_in_nI h1 h2
  have wr : wfR kI 0 := ⟨by decide, fun r hr => (n0 hr).elim⟩
  refine ⟨0, 0, 0, 0, 5000, ⟨⟨nI_0.symm, nI_0.symm, rfl, nI_0.symm, nI_0.symm, by decide, by decide⟩, ⟨kdG, fun r hr => (n0 hr).elim, wr⟩, ⟨wr, fun r hr => (n0 hr).elim, by decide, by decide, fun p hp => (n0 hp).elim, fun r hr => (n0 hr).elim, fun p hp => ?_⟩, ⟨fun r hr => (n0 hr).elim, fun k hk => ⟨⟨10, by decide, ?_⟩, ⟨150, by decide, ?_⟩⟩⟩, ⟨fun q hq => (n0 hq).elim, fun r hr => (n0 hr).elim, fun q s _ hs => (n0 hs).elim⟩, fun r hr => (n0 hr).elim, fun p hp => Or.inl ?_, fun r => Or.inl ?_, fun r _ => ?_⟩, fun r => Or.inl ?_, ⟨rfl, rfl, rfl, rfl, rfl, rfl⟩, ?_, ⟨fun h => (n0 h).elim, fun h => (n0 h).elim⟩, ⟨⟨rfl, rfl, rfl⟩, fun o _ => rfl⟩⟩
  · rw [kI_0 (by decide)]; exact vz 3 (by decide) (by decide)
  · rw [kI_f (by decide)]; unfold kF; rw [if_pos hk]
  · rw [kI_g (by decide)]; unfold kF; rw [if_pos hk]
  · rw [kI_h (by decide)]; unfold kF; rw [if_pos hp]
  · rw [kI_0 (by decide)]
  · rw [kI_0 (by decide)]
  · rw [kI_0 (by decide)]
  · refine ⟨?_, ?_, ?_, ?_, ?_, ?_, ?_, ?_, ?_, ?_, ?_, ?_, ?_, ?_, ?_⟩
    · rw [kI_0 (by decide), kI_0 (by decide)]
    · rw [kI_0 (by decide), kI_0 (by decide)]
    · rw [kI_0 (by decide), kI_0 (by decide)]
    · rw [kI_0 (by decide), kI_0 (by decide)]
    · rw [kI_f (by decide), kI_f (by decide)]
    · rw [kI_g (by decide), kI_g (by decide)]
    · rw [kI_0 (by decide), kI_0 (by decide)]
    · rw [kI_h (by decide), kI_h (by decide)]
    · rw [kI_0 (by decide), kI_0 (by decide)]
    · rw [kI_0 (by decide), kI_0 (by decide)]
    · rw [kI_0 (by decide), kI_0 (by decide)]
    · rw [kI_0 (by decide), kI_0 (by decide)]
    · rw [kI_0 (by decide), kI_0 (by decide)]
    · rw [kI_0 (by decide), kI_0 (by decide)]
    · rw [kI_0 (by decide), kI_0 (by decide)]

set_option maxHeartbeats 4000000 in
set_option maxRecDepth 100000 in
theorem kwd {D : va_G} {cI cZ cJ cQ : ClassId} {h0 x qt qp qr qj qa y z : Nat} {ro rt rp rr rj ra rm : Nat → Nat} : ∀ k, k < 81 → (kW9 cI cZ cJ cQ x qt qp qr qj qa y z ro rt rp rr rj ra rm)[kPl.getD k 0]? = some ((kG D cI cZ cJ cQ h0 x qt qp qr qj qa y z ro rt rp rr rj ra rm).2.1 k, wEnt (kG D cI cZ cJ cQ h0 x qt qp qr qj qa y z ro rt rp rr rj ra rm) kV kI kJ k)
  | 0, _ => rfl
  | 1, _ => rfl
  | 2, _ => rfl
  | 3, _ => rfl
  | 4, _ => rfl
  | 5, _ => rfl
  | 6, _ => rfl
  | 7, _ => rfl
  | 8, _ => rfl
  | 9, _ => rfl
  | 10, _ => rfl
  | 11, _ => rfl
  | 12, _ => rfl
  | 13, _ => rfl
  | 14, _ => rfl
  | 15, _ => rfl
  | 16, _ => rfl
  | 17, _ => rfl
  | 18, _ => rfl
  | 19, _ => rfl
  | 20, _ => rfl
  | 21, _ => rfl
  | 22, _ => rfl
  | 23, _ => rfl
  | 24, _ => rfl
  | 25, _ => rfl
  | 26, _ => rfl
  | 27, _ => rfl
  | 28, _ => rfl
  | 29, _ => rfl
  | 30, _ => rfl
  | 31, _ => rfl
  | 32, _ => rfl
  | 33, _ => congrArg (fun f => some ((ro 5, .inl (cQ, 12, .inr (.inr (.inr (.inr f))))) : Nat × va_E)) (funext fun i => by
      by_cases h : i < 12
      · rcases (show i = 0 ∨ i = 1 ∨ i = 2 ∨ i = 3 ∨ i = 4 ∨ i = 5 ∨ i = 6 ∨ i = 7 ∨ i = 8 ∨ i = 9 ∨ i = 10 ∨ i = 11 by omega) with rfl | rfl | rfl | rfl | rfl | rfl | rfl | rfl | rfl | rfl | rfl | rfl <;> rfl
      · exact (if_neg h).trans (if_neg h).symm)
  | 34, _ => congrArg (fun f => some ((rj 3, .inl (cQ, 4, .inr (.inr (.inr (.inr f))))) : Nat × va_E)) (funext fun i => by
      by_cases h : i < 4
      · rcases (show i = 0 ∨ i = 1 ∨ i = 2 ∨ i = 3 by omega) with rfl | rfl | rfl | rfl <;> rfl
      · exact (if_neg h).trans (if_neg h).symm)
  | 35, _ => rfl
  | 36, _ => rfl
  | 37, _ => rfl
  | 38, _ => rfl
  | 39, _ => rfl
  | 40, _ => rfl
  | 41, _ => rfl
  | 42, _ => rfl
  | 43, _ => rfl
  | 44, _ => rfl
  | 45, _ => rfl
  | 46, _ => rfl
  | 47, _ => rfl
  | 48, _ => rfl
  | 49, _ => rfl
  | 50, _ => rfl
  | 51, _ => rfl
  | 52, _ => rfl
  | 53, _ => rfl
  | 54, _ => rfl
  | 55, _ => rfl
  | 56, _ => rfl
  | 57, _ => rfl
  | 58, _ => rfl
  | 59, _ => rfl
  | 60, _ => rfl
  | 61, _ => rfl
  | 62, _ => rfl
  | 63, _ => rfl
  | 64, _ => rfl
  | 65, _ => rfl
  | 66, _ => rfl
  | 67, _ => rfl
  | 68, _ => rfl
  | 69, _ => rfl
  | 70, _ => rfl
  | 71, _ => rfl
  | 72, _ => rfl
  | 73, _ => rfl
  | 74, _ => rfl
  | 75, _ => rfl
  | 76, _ => rfl
  | 77, _ => rfl
  | 78, _ => rfl
  | 79, _ => rfl
  | 80, _ => rfl
  | k + 81, h => absurd h (by omega)
theorem kpl_inj : ∀ i, i < 81 → ∀ j, j < 81 → kPl.getD i 0 = kPl.getD j 0 → i = j := by decide +kernel
theorem kwd_g {D : va_G} {cI cZ cJ cQ : ClassId} {h0 x qt qp qr qj qa y z : Nat} {ro rt rp rr rj ra rm : Nat → Nat} (k : Nat) (q : Nat × va_E) (h : (Wd (kG D cI cZ cJ cQ h0 x qt qp qr qj qa y z ro rt rp rr rj ra rm) kV kI kJ)[k]? = some q) : (kW9 cI cZ cJ cQ x qt qp qr qj qa y z ro rt rp rr rj ra rm)[kPl.getD k 0]? = some q := by
  have hl : (Wd (kG D cI cZ cJ cQ h0 x qt qp qr qj qa y z ro rt rp rr rj ra rm) kV kI kJ).length = 81 := by unfold Wd; rw [List.length_map, List.length_range]
  have hk : k < 81 := by rw [← hl]; exact (List.getElem?_eq_some_iff.mp h).1
  rw [wd_at _ _ _ _ hk] at h
  rw [kwd k hk]
  exact h
theorem kW9_P {D : va_G} {cI cZ cJ cQ : ClassId} {h0 x qt qp qr qj qa y z : Nat} {ro rt rp rr rj ra rm : Nat → Nat} {H : Heap} (h : va_P D vwCl (kW9 cI cZ cJ cQ x qt qp qr qj qa y z ro rt rp rr rj ra rm) H) : va_P D vwCl (Wd (kG D cI cZ cJ cQ h0 x qt qp qr qj qa y z ro rt rp rr rj ra rm) kV kI kJ) H := h.by (fun k => kPl.getD k 0) kwd_g
theorem kW9_D {D : va_G} {cI cZ cJ cQ : ClassId} {h0 x qt qp qr qj qa y z : Nat} {ro rt rp rr rj ra rm : Nat → Nat} {A : Nat → Prop} (h : va_D A (kW9 cI cZ cJ cQ x qt qp qr qj qa y z ro rt rp rr rj ra rm)) : va_D A (Wd (kG D cI cZ cJ cQ h0 x qt qp qr qj qa y z ro rt rp rr rj ra rm) kV kI kJ) := h.by (fun k => kPl.getD k 0) kwd_g (fun i j hi hj => by
  have hl : (Wd (kG D cI cZ cJ cQ h0 x qt qp qr qj qa y z ro rt rp rr rj ra rm) kV kI kJ).length = 81 := by unfold Wd; rw [List.length_map, List.length_range]
  exact kpl_inj i (by omega) j (by omega))
theorem wD_of {G : wG} {V : wV} {I : wI} {J : wJ} (h : va_D (fun q => G.2.2.1 ≤ q) (Wd G V I J)) : wD G := fun V9 I9 J9 => by
  have hl : ∀ (V : wV) (I : wI) (J : wJ), (Wd G V I J).length = 81 := fun V I J => by unfold Wd; rw [List.length_map, List.length_range]
  have key : ∀ (i : Nat) (q : Nat × va_E), (Wd G V9 I9 J9)[i]? = some q → ∃ q2 : Nat × va_E, (Wd G V I J)[i]? = some q2 ∧ q2.1 = q.1 := fun i q hq => by
    have hi : i < 81 := by rw [← hl V9 I9 J9]; exact (List.getElem?_eq_some_iff.mp hq).1
    rw [wd_at _ _ _ _ hi] at hq
    cases hq
    exact ⟨_, wd_at _ _ _ _ hi, rfl⟩
  refine ⟨fun i j p q hp hq e => ?_, fun i q hq => ?_⟩
  · obtain ⟨p2, h1, e1⟩ := key i p hp
    obtain ⟨q2, h2, e2⟩ := key j q hq
    exact h.1 i j p2 q2 h1 h2 (by rw [e1, e2]; exact e)
  · obtain ⟨q2, h2, e2⟩ := key i q hq
    rw [← e2]
    exact h.2 i q2 h2

