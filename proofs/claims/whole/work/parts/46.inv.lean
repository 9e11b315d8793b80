/-! what holds between the calls -/
def cW (ng nr ns n M : Nat) (V : wV) (I : wI) : Prop := (V 1 = nI ng ∧ V 2 = nI nr ∧ V 3 = nI M ∧ V 4 = nI ns ∧ V 5 = nI n ∧ ng ≤ 12 ∧ M ≤ 100000) ∧ dK I nr ∧ wfC I nr n ns ∧ wT I nr ∧ wS I n ∧ (∀ r, r < nr → fO I r < ng ∧ fP I r < ng) ∧ (∀ p, p < 10 → I 15 p = -1 ∨ vp_in (I 15 p) 6) ∧ (∀ r, I 22 r = 0 ∨ I 22 r = 1) ∧ ∀ r, n ≤ r → I 22 r = 0
def z28 (I : wI) : Prop := ∀ r, I 28 r = 0 ∨ I 28 r = 1
def mJ (J : wJ) : Prop := jE J J ∧ ∀ o, o < 4 → J 63 o = J 32 o
/-- the model's distances are measured with the first gate; no reading comes ahead of it -/
def mG (ng n : Nat) (I : wI) : Prop := (0 < n → 0 < ng) ∧ (0 < ng → mF I)
theorem mG_x {ng n : Nat} {I I2 : wI} (h : mG ng n I) (e : ∀ a, (35 ≤ a ∧ a ≤ 46) ∨ a = 55 → I2 a = I a) : mG ng n I2 := ⟨h.1, fun z => mF_x (h.2 z) e⟩
def Inv (V : wV) (I : wI) (J : wJ) : Prop := ∃ ng nr ns n M : Nat, cW ng nr ns n M V I ∧ z28 I ∧ mV V ∧ mI I ∧ mG ng n I ∧ mJ J
/-- nothing but scratch changes -/
def vs (V V9 : wV) : Prop := ∀ k, k ≠ 6 → k ≠ 7 → k ≠ 14 → V9 k = V k
theorem vs_tr {V V2 V3 : wV} (h : vs V V2) (h2 : vs V2 V3) : vs V V3 := fun k a b c => (h2 k a b c).trans (h k a b c)
theorem vs_rf (V : wV) : vs V V := fun _ _ _ _ => rfl
theorem vs_f {V V9 : wV} (h : fv V V9) : vs V V9 := fun k _ b c => h k b c
theorem vs_7 (V : wV) (x : Int32) : vs V (upd V 7 x) := fun _ _ b _ => pk_un b
theorem wT_y {I I9 : wI} {n : Nat} (h : wT I n) (e : eqy I I9) : wT I9 n := wT_x h (fun a ha => e a (by omega))
theorem dK_y {I I9 : wI} {n : Nat} (h : dK I n) (e : eqy I I9) : dK I9 n := dK_x h (fun a ha => e a (by omega))
theorem cW_x {ng nr ns n M : Nat} {V V9 : wV} {I I9 : wI} (h : cW ng nr ns n M V I) (hv : vs V V9) (hi : eqy I I9) : cW ng nr ns n M V9 I9 := by
  obtain ⟨⟨a1, a2, a3, a4, a5, a6, a7⟩, h1, h2, h3, h4, h5, h6, h7⟩ := h
  refine ⟨⟨(hv 1 (by decide) (by decide) (by decide)).trans a1, (hv 2 (by decide) (by decide) (by decide)).trans a2, (hv 3 (by decide) (by decide) (by decide)).trans a3, (hv 4 (by decide) (by decide) (by decide)).trans a4, (hv 5 (by decide) (by decide) (by decide)).trans a5, a6, a7⟩, dK_y h1 hi, wfC_y h2 hi, wT_y h3 hi, wS_x h4 (hi 21 (by omega)) (hi 23 (by omega)), ?_, ?_, ?_⟩
  · rw [show fO I9 = fO I by unfold fO; rw [hi 8 (by omega)], show fP I9 = fP I by unfold fP; rw [hi 9 (by omega)]]
    exact h5
  · rw [hi 15 (by omega)]
    exact h6
  · rw [hi 22 (by omega)]
    exact h7
theorem mV_x {V V9 : wV} (h : mV V) (hv : vs V V9) : mV V9 := by
  unfold mV
  rw [hv 8 (by decide) (by decide) (by decide), hv 9 (by decide) (by decide) (by decide), hv 10 (by decide) (by decide) (by decide), hv 11 (by decide) (by decide) (by decide), hv 12 (by decide) (by decide) (by decide), hv 13 (by decide) (by decide) (by decide), hv 0 (by decide) (by decide) (by decide), hv 1 (by decide) (by decide) (by decide), hv 2 (by decide) (by decide) (by decide), hv 3 (by decide) (by decide) (by decide), hv 4 (by decide) (by decide) (by decide), hv 5 (by decide) (by decide) (by decide)]
  exact h
/-- I9 is I but for the scratch rows of both -/
def es (I I9 : wI) : Prop := ∀ a, (a < 24 ∨ (28 < a ∧ a < 47) ∨ (50 < a ∧ a < 71) ∨ 76 < a) → I9 a = I a
theorem es_tr {I I2 I3 : wI} (h : es I I2) (h2 : es I2 I3) : es I I3 := fun a ha => (h2 a ha).trans (h a ha)
theorem es_rf (I : wI) : es I I := fun _ _ => rfl
theorem es_x {I I9 : wI} (h : eqx I I9) : es I I9 := fun a ha => h a (by omega)
theorem es_k {I I9 : wI} (h : gK I I9) : es I I9 := fun a ha => h a (by omega)
theorem es_y {I I9 : wI} (h : es I I9) : eqy I I9 := fun a ha => h a (by omega)
theorem mI_s {I I9 : wI} (h : mI I) (e : es I I9) : mI I9 := by
  unfold mI at h ⊢
  rw [e 51 (by omega), e 52 (by omega), e 53 (by omega), e 54 (by omega), e 56 (by omega), e 57 (by omega), e 58 (by omega), e 59 (by omega), e 64 (by omega), e 65 (by omega), e 66 (by omega), e 67 (by omega), e 68 (by omega), e 69 (by omega), e 70 (by omega), e 8 (by omega), e 9 (by omega), e 10 (by omega), e 11 (by omega), e 12 (by omega), e 13 (by omega), e 14 (by omega), e 15 (by omega), e 16 (by omega), e 17 (by omega), e 18 (by omega), e 19 (by omega), e 20 (by omega), e 21 (by omega), e 22 (by omega)]
  exact h
theorem mF_s {I I9 : wI} (h : mF I) (e : es I I9) : mF I9 := mF_x h (fun a ha => e a (by omega))
theorem mG_s {ng n : Nat} {I I9 : wI} (h : mG ng n I) (e : es I I9) : mG ng n I9 := mG_x h (fun a ha => e a (by omega))
/-- the money is as it was -/
def js (J J9 : wJ) : Prop := ∀ a, a < 77 → J9 a = J a
theorem js_tr {J J2 J3 : wJ} (h : js J J2) (h2 : js J2 J3) : js J J3 := fun a ha => (h2 a ha).trans (h a ha)
theorem js_rf (J : wJ) : js J J := fun _ _ => rfl
theorem js_q {J J9 : wJ} (h : fq J J9) : js J J9 := fun a ha => h a (Or.inl ha)
theorem js_80 (J : wJ) (x : Int64) : js J (sJ J 80 0 x) := fun a ha => uJ_n (by omega)
theorem mJ_s {J J9 : wJ} (h : mJ J) (e : js J J9) : mJ J9 := by
  unfold mJ jE at h ⊢
  rw [e 60 (by omega), e 61 (by omega), e 62 (by omega), e 63 (by omega), e 29 (by omega), e 30 (by omega), e 31 (by omega), e 32 (by omega)]
  exact h
theorem Inv_s {ng nr ns n M : Nat} {V V9 : wV} {I I9 : wI} {J J9 : wJ} (hc : cW ng nr ns n M V I) (hmV : mV V) (hmI : mI I) (hmF : mG ng n I) (hmJ : mJ J) (hv : vs V V9) (hi : es I I9) (hz : z28 I9) (hj : js J J9) : Inv V9 I9 J9 := ⟨ng, nr, ns, n, M, cW_x hc hv (es_y hi), hz, mV_x hmV hv, mI_s hmI hi, mG_s hmF hi, mJ_s hmJ hj⟩
/-- what the model's questions ask -/
theorem cGd_of {ng nr ns n M : Nat} {V V9 : wV} {I I9 : wI} (hc : cW ng nr ns n M V I) (hmV : mV V) (hmI : mI I) (hmF : mG ng n I) (hv : vs V V9) (hi : es I I9) : cGd nr n ns M V9 I9 := by
  have h := cW_x hc hv (es_y hi)
  have h2 := mV_x hmV hv
  obtain ⟨⟨a1, a2, a3, a4, a5, a6, a7⟩, h1, h2', h3, h4, -⟩ := h
  obtain ⟨b0, b1, b2, b3, b4, b5⟩ := h2
  exact ⟨b2.trans a2, b3.trans a3, b4.trans a4, b5.trans a5, a7, mI_s hmI hi, (fun z => mF_s (hmF.2 (hmF.1 z)) hi), h1, h2', h3, h4⟩
theorem eqy_b {I I9 G0 : wI} (h : eqy I G0) (hi : es I I9) : eqy I9 G0 := fun a ha => (h a ha).trans (hi a (by omega)).symm
/-- scratch of the class -/
theorem vs_c {V V9 : wV} {I I9 : wI} {J J9 : wJ} (h : scr V I J V9 I9 J9) : vs V V9 := fun k a _ _ => h.1 k a
theorem z28_es {I I9 : wI} (h : z28 I) (e : I9 28 = I 28) : z28 I9 := by
  unfold z28
  rw [e]
  exact h
theorem lE {x y : Int64} (h : x = y) : lg_cmp x y = 0 := (lg_cmp_eq x y).mpr h
/-! what the calls leave, when they do what is asked -/
/-- the script's call went through in both -/
theorem wS_ins {I I9 : wI} {n q : Nat} {m : Int32} (h : wS I n) (hn : n < 1000) (hq : q ≤ n) (h1 : q = 0 ∨ I 21 (tn (I 23 (q - 1))) ≤ m) (h2 : ∀ z, q ≤ z → z < n → m < I 21 (tn (I 23 z))) (e21 : I9 21 = upd (I 21) n m) (e23 : I9 23 = upd (shf (I 23) n q) q (nI n)) : wS I9 (n + 1) := by
  have f1 : ∀ s, s < q → I9 23 s = I 23 s := fun s hs => by
    rw [e23, pk_un (by omega)]
    unfold shf
    rw [if_neg (by omega)]
  have f2 : I9 23 q = nI n := by rw [e23, pk_us]
  have f3 : ∀ s, q < s → s ≤ n → I9 23 s = I 23 (s - 1) := fun s a b => by
    rw [e23, pk_un (by omega)]
    unfold shf
    rw [if_pos ⟨a, b⟩]
  have tq : tn (nI n) = n := nI_clamp (by omega)
  have m1 : ∀ r, r < n → I9 21 r = I 21 r := fun r hr => by rw [e21, pk_un (by omega)]
  have m2 : I9 21 n = m := by rw [e21, pk_us]
  have old : ∀ s t, s < t → t < n → lexl I9 (tn (I 23 s)) (tn (I 23 t)) := fun s t a b => by
    have := h.2.2 s t a b
    have hs := (h.1 s (by omega)).1
    have ht := (h.1 t b).1
    unfold lexl at this ⊢
    rw [m1 _ hs, m1 _ ht]
    exact this
  refine ⟨fun s hs => ?_, fun r hr => ?_, fun s t hst ht => ?_⟩
  · rcases Nat.lt_trichotomy s q with z | z | z
    · rw [f1 s z]
      have := h.1 s (by omega)
      exact ⟨by omega, this.2⟩
    · rw [z, f2, tq]
      exact ⟨by omega, rfl⟩
    · rw [f3 s z (by omega)]
      have := h.1 (s - 1) (by omega)
      exact ⟨by omega, this.2⟩
  · rcases Nat.lt_or_ge r n with z | z
    · obtain ⟨s, hs, es⟩ := h.2.1 r z
      rcases Nat.lt_or_ge s q with y | y
      · exact ⟨s, by omega, by rw [f1 s y]; exact es⟩
      · exact ⟨s + 1, by omega, by rw [f3 (s + 1) (by omega) (by omega)]; exact es⟩
    · exact ⟨q, by omega, by rw [f2, tq]; omega⟩
  · rcases Nat.lt_trichotomy t q with z | z | z
    · rw [f1 s (by omega), f1 t z]
      exact old s t hst (by omega)
    · subst z
      rw [f1 s hst, f2, tq]
      have hs := (h.1 s (by omega)).1
      have hp := (h.1 (t - 1) (by omega)).1
      have h3 := h1.resolve_left (by omega)
      unfold lexl
      rw [m1 _ hs, m2]
      have h4 : I 21 (tn (I 23 s)) ≤ m := by
        by_cases y : s = t - 1
        · rw [y]; exact h3
        · have h5 := h.2.2 s (t - 1) (by omega) (by omega)
          unfold lexl at h5
          rw [Int32.lt_iff_toInt_lt, ← Int32.toInt_inj] at h5
          rw [Int32.le_iff_toInt_le] at h3 ⊢
          omega
      rw [Int32.lt_iff_toInt_lt, ← Int32.toInt_inj]
      rw [Int32.le_iff_toInt_le] at h4
      omega
    · rcases Nat.lt_trichotomy s q with y | y | y
      · rw [f1 s y, f3 t z (by omega)]
        exact old s (t - 1) (by omega) (by omega)
      · subst y
        rw [f2, tq, f3 t z (by omega)]
        have ht2 := (h.1 (t - 1) (by omega)).1
        unfold lexl
        rw [m2, m1 _ ht2]
        exact Or.inl (h2 (t - 1) (by omega) (by omega))
      · rw [f3 s y (by omega), f3 t z (by omega)]
        exact old (s - 1) (t - 1) (by omega) (by omega)
theorem rgB_n {x : Int32} {a b : Nat} (h : rgB x (nI a) (nI b) = true) (ha : a < 2 ^ 31) (hb : b < 2 ^ 31) : ∃ k, a ≤ k ∧ k ≤ b ∧ x = nI k := by
  unfold rgB at h
  rw [Bool.and_eq_true, decide_eq_true_eq, decide_eq_true_eq] at h
  obtain ⟨h1, h2⟩ := h
  have h0 : ¬ x < 0 := fun q => by
    rw [Int32.lt_iff_toInt_lt] at h1 q
    rw [nI_toInt ha] at h1
    have : (0 : Int32).toInt = 0 := by decide
    omega
  obtain ⟨j, hj, e⟩ := nI_of h0
  subst e
  refine ⟨j, ?_, (nI_leI hj hb).mp h2, rfl⟩
  exact Nat.le_of_not_lt (fun q => h1 ((nI_ltI hj ha).mpr q))
theorem tc_in {p : Int32} {n : Nat} (h : tcIn p n = 0) : inB p n = true := by
  unfold tcIn at h
  by_cases q : inB p n = true
  · exact q
  · rw [if_neg q] at h; omega
theorem vin_of {x : Int32} {k n : Nat} (e : x = nI k) (hk : k < n) (hn : n < 2 ^ 31) : vp_in x n := by rw [e]; exact vp_in_nI hk hn
/-- a new road, in the class -/
theorem road_c {I : wI} {nr ng a b : Nat} {p2 p3 : Int32} (hK : dK I nr) (hr : nr < 24) (hg : ng ≤ 12) (ha : a < ng) (hb : b < ng) (he : ∀ r, r < nr → fO I r < ng ∧ fP I r < ng) (h2 : ∃ k, 1 ≤ k ∧ k ≤ 50 ∧ p2 = nI k) :
    ∃ I1, I1 = sdF (uI (uI (uI (uI I 8 (upd (I 8) nr (nI a))) 9 (upd (I 9) nr (nI b))) 10 (upd (I 10) nr p2)) 11 (upd (I 11) nr p3)) a b p2 ng ng ∧ dK I1 (nr + 1) ∧ (∀ r, r < nr + 1 → fO I1 r < ng ∧ fP I1 r < ng) ∧ I1 8 = upd (I 8) nr (nI a) ∧ I1 9 = upd (I 9) nr (nI b) ∧ I1 10 = upd (I 10) nr p2 ∧ I1 11 = upd (I 11) nr p3 ∧ ∀ c, (c < 8 ∨ (11 < c ∧ c < 35) ∨ 46 < c) → I1 c = I c := by
  refine ⟨_, rfl, ?_⟩
  generalize hI4 : uI (uI (uI (uI I 8 (upd (I 8) nr (nI a))) 9 (upd (I 9) nr (nI b))) 10 (upd (I 10) nr p2)) 11 (upd (I 11) nr p3) = I4
  have e8 : I4 8 = upd (I 8) nr (nI a) := by rw [← hI4]; rfl
  have e9 : I4 9 = upd (I 9) nr (nI b) := by rw [← hI4]; rfl
  have e10 : I4 10 = upd (I 10) nr p2 := by rw [← hI4]; rfl
  have e11 : I4 11 = upd (I 11) nr p3 := by rw [← hI4]; rfl
  have eo : ∀ c, (c < 8 ∨ 11 < c) → I4 c = I c := fun c hc => by rw [← hI4, uI_n (by omega), uI_n (by omega), uI_n (by omega), uI_n (by omega)]
  obtain ⟨k, hk1, hk2, ek⟩ := h2
  have ekt : p2.toInt = k := by rw [ek]; exact nI_toInt (by omega)
  have tO : ∀ r, fO I4 r = if r = nr then a else fO I r := fun r => by
    show tn (I4 8 r) = _
    rw [e8]
    by_cases z : r = nr
    · rw [z, pk_us, if_pos rfl]; exact nI_clamp (by omega)
    · rw [pk_un z, if_neg z]
  have tP : ∀ r, fP I4 r = if r = nr then b else fP I r := fun r => by
    show tn (I4 9 r) = _
    rw [e9]
    by_cases z : r = nr
    · rw [z, pk_us, if_pos rfl]; exact nI_clamp (by omega)
    · rw [pk_un z, if_neg z]
  have tL : ∀ r, fL I4 r = if r = nr then (k : Int) else fL I r := fun r => by
    show (I4 10 r).toInt = _
    rw [e10]
    by_cases z : r = nr
    · rw [z, pk_us, if_pos rfl]; exact ekt
    · rw [pk_un z, if_neg z]
  have hends : ∀ r, r < nr + 1 → fO I4 r < ng ∧ fP I4 r < ng := fun r hr9 => by
    rw [tO, tP]
    by_cases z : r = nr
    · rw [if_pos z, if_pos z]; exact ⟨ha, hb⟩
    · rw [if_neg z, if_neg z]; exact he r (by omega)
  have hw : wl (nr + 1) (fO I4) (fP I4) (fL I4) := fun r hr9 => by
    have h5 := hends r hr9
    refine ⟨by omega, by omega, ?_⟩
    rw [tL]
    by_cases z : r = nr
    · rw [if_pos z]; omega
    · rw [if_neg z]; exact (hK.2.1 r (by omega)).2.2
  have hD : dG nr (fO I4) (fP I4) (fL I4) (fD I4) := by
    refine dG_cd (dG_cg hK.1 (fun r hr9 => ?_)) (fun g hg9 => ?_)
    · rw [tO, tP, tL, if_neg (by omega), if_neg (by omega), if_neg (by omega)]
      exact ⟨rfl, rfl, rfl⟩
    · unfold fD
      rw [eo (35 + g) (by omega)]
  obtain ⟨c1, c2⟩ := sdF_ok (I4 := I4) (g0 := ng) (a := a) (b := b) (n := nr) (l := p2) hg hw (by rw [tO, if_pos rfl]) (by rw [tP, if_pos rfl]) (by rw [tL, if_pos rfl, ekt]) hends hD
  generalize hI1 : sdF I4 a b p2 ng ng = I1 at c1 c2
  have g8 : I1 8 = I4 8 := c1 8 (by omega)
  have g9 : I1 9 = I4 9 := c1 9 (by omega)
  have g10 : I1 10 = I4 10 := c1 10 (by omega)
  have eO : fO I1 = fO I4 := by unfold fO; rw [g8]
  have eP : fP I1 = fP I4 := by unfold fP; rw [g9]
  have eL : fL I1 = fL I4 := by unfold fL; rw [g10]
  refine ⟨⟨by rw [eO, eP, eL]; exact c2, by rw [eO, eP, eL]; exact hw, by omega, fun r hr9 => ?_⟩, by rw [eO, eP]; exact hends, g8.trans e8, g9.trans e9, g10.trans e10, (c1 11 (by omega)).trans e11, fun c hc => (c1 c (by omega)).trans (eo c (by omega))⟩
  rw [g8, g9, e8, e9]
  by_cases z : r = nr
  · rw [z, pk_us, pk_us]; exact ⟨vp_in_nI (by omega) (by decide), vp_in_nI (by omega) (by decide)⟩
  · rw [pk_un z, pk_un z]; exact hK.2.2.2 r (by omega)
