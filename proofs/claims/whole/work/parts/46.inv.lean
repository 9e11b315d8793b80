/-! what holds between the calls -/
def cW (ng nr ns n M : Nat) (V : wV) (I : wI) : Prop := (V 1 = nI ng ∧ V 2 = nI nr ∧ V 3 = nI M ∧ V 4 = nI ns ∧ V 5 = nI n ∧ ng ≤ 12 ∧ M ≤ 100000) ∧ dK I nr ∧ wfC I nr n ns ∧ wT I nr ∧ wS I n ∧ (∀ r, r < nr → fO I r < ng ∧ fP I r < ng) ∧ (∀ p, p < 10 → I 15 p = -1 ∨ vp_in (I 15 p) 6) ∧ ∀ r, I 22 r = 0 ∨ I 22 r = 1
def z28 (I : wI) : Prop := ∀ r, I 28 r = 0 ∨ I 28 r = 1
def mJ (J : wJ) : Prop := jE J J ∧ ∀ o, o < 4 → J 63 o = J 32 o
def Inv (V : wV) (I : wI) (J : wJ) : Prop := ∃ ng nr ns n M : Nat, cW ng nr ns n M V I ∧ z28 I ∧ mV V ∧ mI I ∧ mF I ∧ mJ J
/-- nothing but scratch changes -/
def vs (V V9 : wV) : Prop := ∀ k, k ≠ 6 → k ≠ 7 → k ≠ 14 → V9 k = V k
theorem vs_tr {V V2 V3 : wV} (h : vs V V2) (h2 : vs V2 V3) : vs V V3 := fun k a b c => (h2 k a b c).trans (h k a b c)
theorem vs_rf (V : wV) : vs V V := fun _ _ _ _ => rfl
theorem vs_f {V V9 : wV} (h : fv V V9) : vs V V9 := fun k _ b c => h k b c
theorem vs_7 (V : wV) (x : Int32) : vs V (upd V 7 x) := fun _ _ b _ => pk_un b
theorem wT_y {I I9 : wI} {n : Nat} (h : wT I n) (e : eqy I I9) : wT I9 n := wT_x h (fun a ha => e a (by omega))
theorem dK_y {I I9 : wI} {n : Nat} (h : dK I n) (e : eqy I I9) : dK I9 n := dK_x h (fun a ha => e a (by omega))
theorem cW_x {ng nr ns n M : Nat} {V V9 : wV} {I I9 : wI} (h : cW ng nr ns n M V I) (hv : vs V V9) (hi : eqy I I9) : cW ng nr ns n M V9 I9 := by
  obtain ⟨⟨a1, a2, a3, a4, a5, a6, a7⟩, h1, h2, h3, h4, h5, h6, h7⟩ := h
  refine ⟨⟨(hv 1 (by decide) (by decide) (by decide)).trans a1, (hv 2 (by decide) (by decide) (by decide)).trans a2, (hv 3 (by decide) (by decide) (by decide)).trans a3, (hv 4 (by decide) (by decide) (by decide)).trans a4, (hv 5 (by decide) (by decide) (by decide)).trans a5, a6, a7⟩, dK_y h1 hi, wfC_y h2 hi, wT_y h3 hi, wS_x h4 (hi 21 (by omega)) (hi 23 (by omega)), ?_, ?_, ?_⟩
  · rw [show fO I9 = fO I by unfold fO; rw [hi 8 (by omega)], show fP I9 = fP I by unfold fP; rw [hi 9 (by omega)]]
    exact h5
  · rw [hi 15 (by omega)]
    exact h6
  · rw [hi 22 (by omega)]
    exact h7
theorem mV_x {V V9 : wV} (h : mV V) (hv : vs V V9) : mV V9 := by
  unfold mV
  rw [hv 8 (by decide) (by decide) (by decide), hv 9 (by decide) (by decide) (by decide), hv 10 (by decide) (by decide) (by decide), hv 11 (by decide) (by decide) (by decide), hv 12 (by decide) (by decide) (by decide), hv 13 (by decide) (by decide) (by decide), hv 0 (by decide) (by decide) (by decide), hv 1 (by decide) (by decide) (by decide), hv 2 (by decide) (by decide) (by decide), hv 3 (by decide) (by decide) (by decide), hv 4 (by decide) (by decide) (by decide), hv 5 (by decide) (by decide) (by decide)]
  exact h
/-- I9 is I but for the scratch rows of both -/
def es (I I9 : wI) : Prop := ∀ a, (a < 24 ∨ (28 < a ∧ a < 47) ∨ (50 < a ∧ a < 71) ∨ 76 < a) → I9 a = I a
theorem es_tr {I I2 I3 : wI} (h : es I I2) (h2 : es I2 I3) : es I I3 := fun a ha => (h2 a ha).trans (h a ha)
theorem es_rf (I : wI) : es I I := fun _ _ => rfl
theorem es_x {I I9 : wI} (h : eqx I I9) : es I I9 := fun a ha => h a (by omega)
theorem es_k {I I9 : wI} (h : gK I I9) : es I I9 := fun a ha => h a (by omega)
theorem es_y {I I9 : wI} (h : es I I9) : eqy I I9 := fun a ha => h a (by omega)
theorem mI_s {I I9 : wI} (h : mI I) (e : es I I9) : mI I9 := by
  unfold mI at h ⊢
  rw [e 51 (by omega), e 52 (by omega), e 53 (by omega), e 54 (by omega), e 56 (by omega), e 57 (by omega), e 58 (by omega), e 59 (by omega), e 64 (by omega), e 65 (by omega), e 66 (by omega), e 67 (by omega), e 68 (by omega), e 69 (by omega), e 70 (by omega), e 8 (by omega), e 9 (by omega), e 10 (by omega), e 11 (by omega), e 12 (by omega), e 13 (by omega), e 14 (by omega), e 15 (by omega), e 16 (by omega), e 17 (by omega), e 18 (by omega), e 19 (by omega), e 20 (by omega), e 21 (by omega), e 22 (by omega)]
  exact h
theorem mF_s {I I9 : wI} (h : mF I) (e : es I I9) : mF I9 := mF_x h (fun a ha => e a (by omega))
/-- the money is as it was -/
def js (J J9 : wJ) : Prop := ∀ a, a < 77 → J9 a = J a
theorem js_tr {J J2 J3 : wJ} (h : js J J2) (h2 : js J2 J3) : js J J3 := fun a ha => (h2 a ha).trans (h a ha)
theorem js_rf (J : wJ) : js J J := fun _ _ => rfl
theorem js_q {J J9 : wJ} (h : fq J J9) : js J J9 := fun a ha => h a (Or.inl ha)
theorem js_80 (J : wJ) (x : Int64) : js J (sJ J 80 0 x) := fun a ha => uJ_n (by omega)
theorem mJ_s {J J9 : wJ} (h : mJ J) (e : js J J9) : mJ J9 := by
  unfold mJ jE at h ⊢
  rw [e 60 (by omega), e 61 (by omega), e 62 (by omega), e 63 (by omega), e 29 (by omega), e 30 (by omega), e 31 (by omega), e 32 (by omega)]
  exact h
theorem Inv_s {ng nr ns n M : Nat} {V V9 : wV} {I I9 : wI} {J J9 : wJ} (hc : cW ng nr ns n M V I) (hmV : mV V) (hmI : mI I) (hmF : mF I) (hmJ : mJ J) (hv : vs V V9) (hi : es I I9) (hz : z28 I9) (hj : js J J9) : Inv V9 I9 J9 := ⟨ng, nr, ns, n, M, cW_x hc hv (es_y hi), hz, mV_x hmV hv, mI_s hmI hi, mF_s hmF hi, mJ_s hmJ hj⟩
/-- what the model's questions ask -/
theorem cGd_of {ng nr ns n M : Nat} {V V9 : wV} {I I9 : wI} (hc : cW ng nr ns n M V I) (hmV : mV V) (hmI : mI I) (hmF : mF I) (hv : vs V V9) (hi : es I I9) : cGd nr n ns M V9 I9 := by
  have h := cW_x hc hv (es_y hi)
  have h2 := mV_x hmV hv
  obtain ⟨⟨a1, a2, a3, a4, a5, a6, a7⟩, h1, h2', h3, h4, -⟩ := h
  obtain ⟨b0, b1, b2, b3, b4, b5⟩ := h2
  exact ⟨b2.trans a2, b3.trans a3, b4.trans a4, b5.trans a5, a7, mI_s hmI hi, mF_s hmF hi, h1, h2', h3, h4⟩
theorem eqy_b {I I9 G0 : wI} (h : eqy I G0) (hi : es I I9) : eqy I9 G0 := fun a ha => (h a ha).trans (hi a (by omega)).symm
/-- scratch of the class -/
theorem vs_c {V V9 : wV} {I I9 : wI} {J J9 : wJ} (h : scr V I J V9 I9 J9) : vs V V9 := fun k a _ _ => h.1 k a
theorem z28_es {I I9 : wI} (h : z28 I) (e : I9 28 = I 28) : z28 I9 := by
  unfold z28
  rw [e]
  exact h
theorem lE {x y : Int64} (h : x = y) : lg_cmp x y = 0 := (lg_cmp_eq x y).mpr h
