/-! one call of the law: the class's, then the model's -/
theorem mQ_0 {tc : Nat} {rz r : Option Value} {V V9 : wV} {I I9 : wI} {J J9 : wJ} {P : wPo} (h : mQ tc rz V I J P r V9 I9 J9) (ht : tc = 0) : P r V9 I9 J9 := by
  rcases h with h | h
  · exact h.2
  · have := h.1; omega
theorem mQ_p {tc : Nat} {rz r : Option Value} {V V9 : wV} {I I9 : wI} {J J9 : wJ} {P : wPo} (h : mQ tc rz V I J P r V9 I9 J9) (ht : 0 < tc) : r = rz ∧ V9 = upd V 7 (nI tc) ∧ I9 = I ∧ J9 = J := by
  rcases h with h | h
  · have := h.1; omega
  · exact h.2
theorem j80 (J : wJ) (x : Int64) : sJ J 80 0 x 80 0 = x := (congrFun uJ_s 0).trans pk_uLs
theorem sJs (J : wJ) (x : Int64) : js J (sJ J 80 0 x) := js_80 J x
theorem som_i {x y : Int32} (h : (some (.int x) : Option Value) = some (.int y)) : x = y := by cases h; rfl
theorem som_l {x y : Int64} (h : (some (.long x) : Option Value) = some (.long y)) : x = y := by cases h; rfl
/-- both threw the same -/
theorem st_f {ng nr ns n M : Nat} {V V2 : wV} {I I2 : wI} {J J2 : wJ} (hc : cW ng nr ns n M V I) (hz : z28 I) (hmV : mV V) (hmI : mI I) (hmF : mG ng n I) (hmJ : mJ J) {tc t : Nat} {rz r : Option Value} {P : wPo} (hB : mQ tc rz V I J P r V2 I2 J2) (ht : tc = t) (h0 : 0 < t) : r = rz ∧ V2 7 = nI t ∧ Inv V2 I2 J2 := by
  subst ht
  obtain ⟨h1, h2, h3, h4⟩ := mQ_p hB h0
  subst h2 h3 h4
  exact ⟨h1, pk_us, Inv_s hc hmV hmI hmF hmJ (vs_7 _ _) (es_rf _) hz (js_rf _)⟩

theorem dO_s (nr ns n o : Nat) (V : wV) (I : wI) : ∀ p, (dO nr ns n o V I p).1 = dS nr ns n o (fun p => (dO nr ns n o V I p).2.2) (V 0) (V 3) p
  | 0 => rfl
  | p + 1 => by
    show (dO nr ns n o V I p).1 + _ = dS nr ns n o _ (V 0) (V 3) p + _
    rw [dO_s nr ns n o V I p]

theorem st_gate {ng nr ns n M : Nat} {V : wV} {I : wI} {J : wJ} (hc : cW ng nr ns n M V I) (hz : z28 I) (hmV : mV V) (hmI : mI I) (hmF : mG ng n I) (hmJ : mJ J) {r1 : Option Value} {V1 : wV} {I1 : wI} {J1 : wJ} (hA : (wQi (fun r V9 I9 J9 => tcGate ng = 0 ∧ r = some (.int (nI ng)) ∧ V9 = upd V 1 (nI (ng + 1)) ∧ I9 = I ∧ J9 = J ∧ ng < 12) (wXc V I J (tcGate ng))) r1 V1 I1 J1) : ∃ t : Nat, r1 = some (.int (nI t)) ∧ t < 4 ∧ (V1 9 = nI ng ∧ V1 10 = nI nr ∧ I1 51 = I1 8 ∧ I1 52 = I1 9 ∧ I1 53 = I1 10 ∧ dK I1 nr) ∧ ∀ (r : Option Value) (V2 : wV) (I2 : wI) (J2 : wJ), (mQ (tcGate ng) (some (.int (nI 0))) V1 I1 J1 (fun r V9 I9 J9 => r = some (.int (nI ng)) ∧ V9 = (upd (upd V1 7 (nI 0)) 9 (nI (ng + 1))) ∧ J9 = J1 ∧ ng < 12 ∧ ∃ f, I9 = uI I1 55 f ∧ mF (uI I1 55 f))) r V2 I2 J2 → ∃ b, r = some (.int b) ∧ V2 7 = nI t ∧ (t = 0 → J2 80 0 = b.toInt64) ∧ Inv V2 I2 J2 := by
  obtain ⟨⟨v1, v2, v3, v4, v5, hng, hM⟩, hK, hw, hT9, hS9, hends, hhold, h22, h22n⟩ := id hc
  obtain ⟨q8, q9, q10, q11, q12, q13⟩ := id hmV
  obtain ⟨m51, m52, m53, m54, m56, m57, m58, m59, m64, m65, m66, m67, m68, m69, m70⟩ := id hmI
  have w24 := hw.1.1
  obtain ⟨t, ht, hA⟩ := hA
  rcases hA with ⟨rfl, hA⟩ | ⟨h0, h4, hA⟩
  · obtain ⟨x, J8, ⟨htc, hx, rfl, rfl, rfl, hlt⟩, rfl⟩ := hA
    have hx := som_i hx
    refine ⟨0, ht, by decide, ⟨(pk_un (by decide)).trans (q9.trans v1), (pk_un (by decide)).trans (q10.trans v2), m51, m52, m53, hK⟩, fun r V2 I2 J2 hB => ?_⟩
    obtain ⟨hr, rfl, rfl, -, f, rfl, hF⟩ := mQ_0 hB htc
    exact ⟨_, hr, by simp [upd], fun _ => by rw [j80, hx], fin_gate hc hz hmV hmI hmF hmJ hlt hF (sJs _ _)⟩
  · obtain ⟨rfl, rfl, rfl, htc⟩ := hA
    refine ⟨t, ht, h4, ⟨q9.trans v1, q10.trans v2, m51, m52, m53, hK⟩, fun r V2 I2 J2 hB => ?_⟩
    obtain ⟨a, b9, c9⟩ := st_f hc hz hmV hmI hmF hmJ hB (htc) h0
    exact ⟨_, a, b9, fun z => absurd z (by omega), c9⟩

theorem st_road {ng nr ns n M : Nat} {V : wV} {I : wI} {J : wJ} (hc : cW ng nr ns n M V I) (hz : z28 I) (hmV : mV V) (hmI : mI I) (hmF : mG ng n I) (hmJ : mJ J) {p0 p1 p2 p3 : Int32} {r1 : Option Value} {V1 : wV} {I1 : wI} {J1 : wJ} (hA : (wQi (fun r V9 I9 J9 => tcRoad ng nr p0 p1 p2 p3 = 0 ∧ r = some (.int (nI nr)) ∧ V9 = upd V 2 (nI (nr + 1)) ∧ J9 = J ∧ nr < 24 ∧ ∃ a b, a < ng ∧ b < ng ∧ p0 = nI a ∧ p1 = nI b ∧ I9 = sdF (uI (uI (uI (uI I 8 (upd (I 8) nr (nI a))) 9 (upd (I 9) nr (nI b))) 10 (upd (I 10) nr p2)) 11 (upd (I 11) nr p3)) a b p2 ng ng) (wXc V I J (tcRoad ng nr p0 p1 p2 p3))) r1 V1 I1 J1) : ∃ t : Nat, r1 = some (.int (nI t)) ∧ t < 4 ∧ (V1 9 = nI ng ∧ V1 10 = nI nr ∧ (tcRoad ng nr p0 p1 p2 p3 = 0 → I1 8 = upd (I1 51) nr p0 ∧ I1 9 = upd (I1 52) nr p1 ∧ I1 10 = upd (I1 53) nr p2 ∧ dK I1 (nr + 1))) ∧ ∀ (r : Option Value) (V2 : wV) (I2 : wI) (J2 : wJ), (mQ (tcRoad ng nr p0 p1 p2 p3) (some (.int (nI 0))) V1 I1 J1 (fun r V9 I9 J9 => r = some (.int (nI nr)) ∧ V9 = upd (upd V1 7 (nI 0)) 10 (nI (nr + 1)) ∧ J9 = J1 ∧ nr < 24 ∧ ∃ f, I9 = uI (sI (sI (sI (sI I1 51 nr p0) 52 nr p1) 53 nr p2) 54 nr p3) 55 f ∧ mF (uI (sI (sI (sI (sI I1 51 nr p0) 52 nr p1) 53 nr p2) 54 nr p3) 55 f))) r V2 I2 J2 → ∃ b, r = some (.int b) ∧ V2 7 = nI t ∧ (t = 0 → J2 80 0 = b.toInt64) ∧ Inv V2 I2 J2 := by
  obtain ⟨⟨v1, v2, v3, v4, v5, hng, hM⟩, hK, hw, hT9, hS9, hends, hhold, h22, h22n⟩ := id hc
  obtain ⟨q8, q9, q10, q11, q12, q13⟩ := id hmV
  obtain ⟨m51, m52, m53, m54, m56, m57, m58, m59, m64, m65, m66, m67, m68, m69, m70⟩ := id hmI
  have w24 := hw.1.1
  obtain ⟨t, ht, hA⟩ := hA
  rcases hA with ⟨rfl, hA⟩ | ⟨h0, h4, hA⟩
  · obtain ⟨x, J8, ⟨htc, hx, rfl, rfl, hlt, a, b, ha, hb, e0, e1, hI1⟩, rfl⟩ := hA
    have hx := som_i hx
    have htc2 := htc
    unfold tcRoad at htc2
    split at htc2
    split at htc2
    rename_i y1 y2
    rw [Bool.and_eq_true, Bool.and_eq_true] at y2
    obtain ⟨k, hk1, hk2, ek⟩ := rgB_n (a := 1) (b := 50) y2.1 (by omega) (by omega)
    obtain ⟨o9, -, ho2, eo⟩ := rgB_n (a := 0) (b := 3) y2.2.1 (by omega) (by omega)
    obtain ⟨I9, hI9, g1, g2, g8, g9, g10, g11, gx⟩ := road_c (p3 := p3) hK hlt hng ha hb hends ⟨k, hk1, hk2, ek⟩
    rw [← hI9] at hI1
    subst hI1
    refine ⟨0, ht, by decide, ⟨(pk_un (by decide)).trans (q9.trans v1), (pk_un (by decide)).trans (q10.trans v2), fun _ => ⟨by rw [g8, gx 51 (by omega), m51, e0], by rw [g9, gx 52 (by omega), m52, e1], by rw [g10, gx 53 (by omega), m53], g1⟩⟩, fun r V2 I2 J2 hB => ?_⟩
    obtain ⟨hr, rfl, rfl, -, f, rfl, hF⟩ := mQ_0 hB htc
    exact ⟨_, hr, by simp [upd], fun _ => by rw [j80, hx], fin_road hc hz hmV hmI hmF hmJ hlt ha hb e0 e1 hk2 ek (by omega) eo g1 g2 g8 g9 g10 g11 gx hF (sJs _ _)⟩
    all_goals omega
  · obtain ⟨rfl, rfl, rfl, htc⟩ := hA
    refine ⟨t, ht, h4, ⟨q9.trans v1, q10.trans v2, fun z => by omega⟩, fun r V2 I2 J2 hB => ?_⟩
    obtain ⟨a, b9, c9⟩ := st_f hc hz hmV hmI hmF hmJ hB (htc) h0
    exact ⟨_, a, b9, fun z => absurd z (by omega), c9⟩

theorem st_rate {ng nr ns n M : Nat} {V : wV} {I : wI} {J : wJ} (hc : cW ng nr ns n M V I) (hz : z28 I) (hmV : mV V) (hmI : mI I) (hmF : mG ng n I) (hmJ : mJ J) {p0 p1 p2 : Int32} {r1 : Option Value} {V1 : wV} {I1 : wI} {J1 : wJ} (hA : (wQv (fun r V9 I9 J9 => tcRate p0 p1 p2 = 0 ∧ r = none ∧ V9 = V ∧ J9 = J ∧ ∃ k, k < 3 ∧ p0 = nI k ∧ I9 = sI (sI I 12 k p1) 13 k p2) (wXc V I J (tcRate p0 p1 p2))) r1 V1 I1 J1) : ∃ t : Nat, r1 = some (.int (nI t)) ∧ t < 4 ∧ (True) ∧ ∀ (r : Option Value) (V2 : wV) (I2 : wI) (J2 : wJ), (mQ (tcRate p0 p1 p2) none V1 I1 J1 (fun r V9 I9 J9 => r = none ∧ V9 = upd V1 7 (nI 0) ∧ J9 = J1 ∧ ∃ k, k < 3 ∧ p0 = nI k ∧ I9 = sI (sI I1 56 k p1) 57 k p2)) r V2 I2 J2 → r = none ∧ V2 7 = nI t ∧ Inv V2 I2 J2 := by
  obtain ⟨⟨v1, v2, v3, v4, v5, hng, hM⟩, hK, hw, hT9, hS9, hends, hhold, h22, h22n⟩ := id hc
  obtain ⟨q8, q9, q10, q11, q12, q13⟩ := id hmV
  obtain ⟨m51, m52, m53, m54, m56, m57, m58, m59, m64, m65, m66, m67, m68, m69, m70⟩ := id hmI
  have w24 := hw.1.1
  obtain ⟨t, ht, hA⟩ := hA
  rcases hA with ⟨rfl, hA⟩ | ⟨h0, h4, hA⟩
  · obtain ⟨htc, -, rfl, rfl, k, hk, e0, rfl⟩ := hA
    have htc2 := htc
    unfold tcRate at htc2
    split at htc2
    rename_i y2
    rw [Bool.and_eq_true, Bool.and_eq_true] at y2
    obtain ⟨a1, -, ha2, ea⟩ := rgB_n (a := 0) (b := 100) y2.2.1 (by omega) (by omega)
    obtain ⟨b1, -, hb2, eb⟩ := rgB_n (a := 0) (b := 300) y2.2.2 (by omega) (by omega)
    refine ⟨0, ht, by decide, trivial, fun r V2 I2 J2 hB => ?_⟩
    obtain ⟨hr, rfl, rfl, k2, hk2, e2, rfl⟩ := mQ_0 hB htc
    have ekk : k2 = k := (nI_eq (by omega) (by omega)).mp (e2.symm.trans e0)
    subst ekk
    exact ⟨hr, pk_us, fin_rate hc hz hmV hmI hmF hmJ hk ⟨a1, ha2, ea⟩ ⟨b1, hb2, eb⟩ (js_rf _)⟩
    omega
  · obtain ⟨rfl, rfl, rfl, htc⟩ := hA
    refine ⟨t, ht, h4, trivial, fun r V2 I2 J2 hB => ?_⟩
    obtain ⟨a, b9, c9⟩ := st_f hc hz hmV hmI hmF hmJ hB (htc) h0
    exact ⟨a, b9, c9⟩

theorem st_most {ng nr ns n M : Nat} {V : wV} {I : wI} {J : wJ} (hc : cW ng nr ns n M V I) (hz : z28 I) (hmV : mV V) (hmI : mI I) (hmF : mG ng n I) (hmJ : mJ J) {p0 : Int32} {r1 : Option Value} {V1 : wV} {I1 : wI} {J1 : wJ} (hA : (wQi (fun r V9 I9 J9 => tcMost p0 = 0 ∧ r = some (.int (V 3)) ∧ V9 = upd V 3 p0 ∧ I9 = I ∧ J9 = J) (wXc V I J (tcMost p0))) r1 V1 I1 J1) : ∃ t : Nat, r1 = some (.int (nI t)) ∧ t < 4 ∧ (True) ∧ ∀ (r : Option Value) (V2 : wV) (I2 : wI) (J2 : wJ), (mQ (tcMost p0) (some (.int (nI 0))) V1 I1 J1 (fun r V9 I9 J9 => r = some (.int (V1 11)) ∧ V9 = upd (upd V1 7 (nI 0)) 11 p0 ∧ I9 = I1 ∧ J9 = J1)) r V2 I2 J2 → ∃ b, r = some (.int b) ∧ V2 7 = nI t ∧ (t = 0 → J2 80 0 = b.toInt64) ∧ Inv V2 I2 J2 := by
  obtain ⟨⟨v1, v2, v3, v4, v5, hng, hM⟩, hK, hw, hT9, hS9, hends, hhold, h22, h22n⟩ := id hc
  obtain ⟨q8, q9, q10, q11, q12, q13⟩ := id hmV
  obtain ⟨m51, m52, m53, m54, m56, m57, m58, m59, m64, m65, m66, m67, m68, m69, m70⟩ := id hmI
  have w24 := hw.1.1
  obtain ⟨t, ht, hA⟩ := hA
  rcases hA with ⟨rfl, hA⟩ | ⟨h0, h4, hA⟩
  · obtain ⟨x, J8, ⟨htc, hx, rfl, rfl, rfl⟩, rfl⟩ := hA
    have hx := som_i hx
    have htc2 := htc
    unfold tcMost at htc2
    split at htc2
    rename_i y2
    obtain ⟨a1, -, ha2, ea⟩ := rgB_n (a := 0) (b := 100000) y2 (by omega) (by omega)
    refine ⟨0, ht, by decide, trivial, fun r V2 I2 J2 hB => ?_⟩
    obtain ⟨hr, rfl, rfl, rfl⟩ := mQ_0 hB htc
    exact ⟨_, hr, by simp [upd], fun _ => by rw [j80, hx, pk_un (by decide), q11], fin_most hc hz hmV hmI hmF hmJ ha2 ea (sJs _ _)⟩
    omega
  · obtain ⟨rfl, rfl, rfl, htc⟩ := hA
    refine ⟨t, ht, h4, trivial, fun r V2 I2 J2 hB => ?_⟩
    obtain ⟨a, b9, c9⟩ := st_f hc hz hmV hmI hmF hmJ hB (htc) h0
    exact ⟨_, a, b9, fun z => absurd z (by omega), c9⟩

theorem st_plate {ng nr ns n M : Nat} {V : wV} {I : wI} {J : wJ} (hc : cW ng nr ns n M V I) (hz : z28 I) (hmV : mV V) (hmI : mI I) (hmF : mG ng n I) (hmJ : mJ J) {p0 p1 p2 : Int32} {r1 : Option Value} {V1 : wV} {I1 : wI} {J1 : wJ} (hA : (wQv (fun r V9 I9 J9 => tcPlate p0 p1 p2 = 0 ∧ r = none ∧ V9 = V ∧ J9 = J ∧ ∃ p, p < 10 ∧ p0 = nI p ∧ I9 = sI (sI I 14 p p1) 15 p p2) (wXc V I J (tcPlate p0 p1 p2))) r1 V1 I1 J1) : ∃ t : Nat, r1 = some (.int (nI t)) ∧ t < 4 ∧ (True) ∧ ∀ (r : Option Value) (V2 : wV) (I2 : wI) (J2 : wJ), (mQ (tcPlate p0 p1 p2) none V1 I1 J1 (fun r V9 I9 J9 => r = none ∧ V9 = upd V1 7 (nI 0) ∧ J9 = J1 ∧ ∃ p, p < 10 ∧ p0 = nI p ∧ I9 = sI (sI I1 58 p p1) 59 p p2)) r V2 I2 J2 → r = none ∧ V2 7 = nI t ∧ Inv V2 I2 J2 := by
  obtain ⟨⟨v1, v2, v3, v4, v5, hng, hM⟩, hK, hw, hT9, hS9, hends, hhold, h22, h22n⟩ := id hc
  obtain ⟨q8, q9, q10, q11, q12, q13⟩ := id hmV
  obtain ⟨m51, m52, m53, m54, m56, m57, m58, m59, m64, m65, m66, m67, m68, m69, m70⟩ := id hmI
  have w24 := hw.1.1
  obtain ⟨t, ht, hA⟩ := hA
  rcases hA with ⟨rfl, hA⟩ | ⟨h0, h4, hA⟩
  · obtain ⟨htc, -, rfl, rfl, p, hp, e0, rfl⟩ := hA
    have htc2 := htc
    unfold tcPlate at htc2
    split at htc2
    split at htc2
    rename_i y1 y2
    rw [Bool.and_eq_true, Bool.or_eq_true, decide_eq_true_eq] at y2
    obtain ⟨a1, -, ha2, ea⟩ := rgB_n (a := 0) (b := 2) y2.1 (by omega) (by omega)
    have hh2 : p2 = -1 ∨ vp_in p2 6 := y2.2.imp id (fun z => by obtain ⟨b1, -, hb2, eb⟩ := rgB_n (a := 0) (b := 5) z (by omega) (by omega); exact vin_of eb (by omega) (by omega))
    refine ⟨0, ht, by decide, trivial, fun r V2 I2 J2 hB => ?_⟩
    obtain ⟨hr, rfl, rfl, k2, hk2, e2, rfl⟩ := mQ_0 hB htc
    have ekk : k2 = p := (nI_eq (by omega) (by omega)).mp (e2.symm.trans e0)
    subst ekk
    exact ⟨hr, pk_us, fin_plate hc hz hmV hmI hmF hmJ hp (vin_of ea (by omega) (by omega)) hh2 (js_rf _)⟩
    all_goals omega
  · obtain ⟨rfl, rfl, rfl, htc⟩ := hA
    refine ⟨t, ht, h4, trivial, fun r V2 I2 J2 hB => ?_⟩
    obtain ⟨a, b9, c9⟩ := st_f hc hz hmV hmI hmF hmJ hB (htc) h0
    exact ⟨a, b9, c9⟩

theorem st_top {ng nr ns n M : Nat} {V : wV} {I : wI} {J : wJ} (hc : cW ng nr ns n M V I) (hz : z28 I) (hmV : mV V) (hmI : mI I) (hmF : mG ng n I) (hmJ : mJ J) {p0 p1 : Int32} {r1 : Option Value} {V1 : wV} {I1 : wI} {J1 : wJ} (hA : (wQl (fun r V9 I9 J9 => tcTop p0 p1 = 0 ∧ V9 = V ∧ I9 = I ∧ ∃ h, h < 6 ∧ p0 = nI h ∧ r = some (.long (J 29 h + p1.toInt64)) ∧ J9 = sJ J 29 h (J 29 h + p1.toInt64)) (wXc V I J (tcTop p0 p1))) r1 V1 I1 J1) : ∃ t : Nat, r1 = some (.int (nI t)) ∧ t < 4 ∧ (True) ∧ ∀ (r : Option Value) (V2 : wV) (I2 : wI) (J2 : wJ), (mQ (tcTop p0 p1) (some (.long 0)) V1 I1 J1 (fun r V9 I9 J9 => V9 = upd V1 7 (nI 0) ∧ I9 = I1 ∧ ∃ h, h < 6 ∧ p0 = nI h ∧ r = some (.long (J1 62 h + p1.toInt64)) ∧ J9 = sJ J1 62 h (J1 62 h + p1.toInt64))) r V2 I2 J2 → ∃ b, r = some (.long b) ∧ V2 7 = nI t ∧ (t = 0 → J2 80 0 = b) ∧ Inv V2 I2 J2 := by
  obtain ⟨⟨v1, v2, v3, v4, v5, hng, hM⟩, hK, hw, hT9, hS9, hends, hhold, h22, h22n⟩ := id hc
  obtain ⟨q8, q9, q10, q11, q12, q13⟩ := id hmV
  obtain ⟨m51, m52, m53, m54, m56, m57, m58, m59, m64, m65, m66, m67, m68, m69, m70⟩ := id hmI
  have w24 := hw.1.1
  obtain ⟨t, ht, hA⟩ := hA
  rcases hA with ⟨rfl, hA⟩ | ⟨h0, h4, hA⟩
  · obtain ⟨x, J8, ⟨htc, rfl, rfl, h, hh, e0, hx, rfl⟩, rfl⟩ := hA
    have hx := som_l hx
    refine ⟨0, ht, by decide, trivial, fun r V2 I2 J2 hB => ?_⟩
    obtain ⟨rfl, rfl, k2, hk2, e2, hr, rfl⟩ := mQ_0 hB htc
    have ekk : k2 = h := (nI_eq (by omega) (by omega)).mp (e2.symm.trans e0)
    subst ekk
    refine ⟨_, hr, pk_us, fun _ => ?_, fin_top hc hz hmV hmI hmF hmJ (fun a ha => sJs _ _ a ha) (fun a ha => rfl)⟩
    rw [show sJ (sJ (sJ J 29 k2 (J 29 k2 + p1.toInt64)) 80 0 x) 62 k2 (sJ (sJ J 29 k2 (J 29 k2 + p1.toInt64)) 80 0 x 62 k2 + p1.toInt64) 80 0 = sJ (sJ J 29 k2 (J 29 k2 + p1.toInt64)) 80 0 x 80 0 from rfl, j80, hx]
    show J 29 k2 + p1.toInt64 = J 62 k2 + p1.toInt64
    rw [hmJ.1.2.2]
  · obtain ⟨rfl, rfl, rfl, htc⟩ := hA
    refine ⟨t, ht, h4, trivial, fun r V2 I2 J2 hB => ?_⟩
    obtain ⟨a, b9, c9⟩ := st_f hc hz hmV hmI hmF hmJ hB (htc) h0
    exact ⟨_, a, b9, fun z => absurd z (by omega), c9⟩

theorem st_exempt {ng nr ns n M : Nat} {V : wV} {I : wI} {J : wJ} (hc : cW ng nr ns n M V I) (hz : z28 I) (hmV : mV V) (hmI : mI I) (hmF : mG ng n I) (hmJ : mJ J) {p0 p1 p2 : Int32} {r1 : Option Value} {V1 : wV} {I1 : wI} {J1 : wJ} (hA : (wQi (fun r V9 I9 J9 => tcExempt ns p0 p1 p2 = 0 ∧ r = some (.int (nI (ns + 1))) ∧ V9 = upd V 4 (nI (ns + 1)) ∧ ns < 20 ∧ I9 = uI (uI (uI I 16 (upd (I 16) ns p0)) 17 (upd (I 17) ns p1)) 18 (upd (I 18) ns p2) ∧ J9 = J) (wXc V I J (tcExempt ns p0 p1 p2))) r1 V1 I1 J1) : ∃ t : Nat, r1 = some (.int (nI t)) ∧ t < 4 ∧ (V1 12 = nI ns) ∧ ∀ (r : Option Value) (V2 : wV) (I2 : wI) (J2 : wJ), (mQ (tcExempt ns p0 p1 p2) (some (.int (nI 0))) V1 I1 J1 (fun r V9 I9 J9 => r = some (.int (nI (ns + 1))) ∧ V9 = upd (upd V1 7 (nI 0)) 12 (nI (ns + 1)) ∧ ns < 20 ∧ J9 = J1 ∧ I9 = sI (sI (sI I1 64 ns p0) 65 ns p1) 66 ns p2)) r V2 I2 J2 → ∃ b, r = some (.int b) ∧ V2 7 = nI t ∧ (t = 0 → J2 80 0 = b.toInt64) ∧ Inv V2 I2 J2 := by
  obtain ⟨⟨v1, v2, v3, v4, v5, hng, hM⟩, hK, hw, hT9, hS9, hends, hhold, h22, h22n⟩ := id hc
  obtain ⟨q8, q9, q10, q11, q12, q13⟩ := id hmV
  obtain ⟨m51, m52, m53, m54, m56, m57, m58, m59, m64, m65, m66, m67, m68, m69, m70⟩ := id hmI
  have w24 := hw.1.1
  obtain ⟨t, ht, hA⟩ := hA
  rcases hA with ⟨rfl, hA⟩ | ⟨h0, h4, hA⟩
  · obtain ⟨x, J8, ⟨htc, hx, rfl, hlt, rfl, rfl⟩, rfl⟩ := hA
    have hx := som_i hx
    refine ⟨0, ht, by decide, (pk_un (by decide)).trans (q12.trans v4), fun r V2 I2 J2 hB => ?_⟩
    obtain ⟨hr, rfl, -, rfl, rfl⟩ := mQ_0 hB htc
    exact ⟨_, hr, by simp [upd], fun _ => by rw [j80, hx], fin_exempt hc hz hmV hmI hmF hmJ hlt (sJs _ _)⟩
  · obtain ⟨rfl, rfl, rfl, htc⟩ := hA
    refine ⟨t, ht, h4, q12.trans v4, fun r V2 I2 J2 hB => ?_⟩
    obtain ⟨a, b9, c9⟩ := st_f hc hz hmV hmI hmF hmJ hB (htc) h0
    exact ⟨_, a, b9, fun z => absurd z (by omega), c9⟩

theorem st_read {ng nr ns n M : Nat} {V : wV} {I : wI} {J : wJ} (hc : cW ng nr ns n M V I) (hz : z28 I) (hmV : mV V) (hmI : mI I) (hmF : mG ng n I) (hmJ : mJ J) {p0 p1 p2 : Int32} {r1 : Option Value} {V1 : wV} {I1 : wI} {J1 : wJ} (hA : (wQi (fun r V9 I9 J9 => tcRead ng n (V 0) p0 p1 p2 = 0 ∧ r = some (.int (nI n)) ∧ V9 = upd V 5 (nI (n + 1)) ∧ n < 100 ∧ J9 = J ∧ ∃ q, q ≤ n ∧ I9 = uI (rdI I n p0 p1 p2) 23 (upd (shf (I 23) n q) q (nI n)) ∧ (q = 0 ∨ I 21 (I 23 (q - 1)).toNatClampNeg ≤ p2) ∧ ∀ z, q ≤ z → z < n → p2 < I 21 (I 23 z).toNatClampNeg) (wXc V I J (tcRead ng n (V 0) p0 p1 p2))) r1 V1 I1 J1) : ∃ t : Nat, r1 = some (.int (nI t)) ∧ t < 4 ∧ (V1 9 = nI ng ∧ V1 13 = nI n) ∧ ∀ (r : Option Value) (V2 : wV) (I2 : wI) (J2 : wJ), (mQ (tcRead ng n (V1 8) p0 p1 p2) (some (.int (nI 0))) V1 I1 J1 (fun r V9 I9 J9 => r = some (.int (nI n)) ∧ V9 = upd (upd V1 7 (nI 0)) 13 (nI (n + 1)) ∧ n < 100 ∧ J9 = J1 ∧ I9 = sI (sI (sI (sI I1 67 n p0) 68 n p1) 69 n p2) 70 n (nI 0))) r V2 I2 J2 → ∃ b, r = some (.int b) ∧ V2 7 = nI t ∧ (t = 0 → J2 80 0 = b.toInt64) ∧ Inv V2 I2 J2 := by
  obtain ⟨⟨v1, v2, v3, v4, v5, hng, hM⟩, hK, hw, hT9, hS9, hends, hhold, h22, h22n⟩ := id hc
  obtain ⟨q8, q9, q10, q11, q12, q13⟩ := id hmV
  obtain ⟨m51, m52, m53, m54, m56, m57, m58, m59, m64, m65, m66, m67, m68, m69, m70⟩ := id hmI
  have w24 := hw.1.1
  obtain ⟨t, ht, hA⟩ := hA
  rcases hA with ⟨rfl, hA⟩ | ⟨h0, h4, hA⟩
  · obtain ⟨x, J8, ⟨htc, hx, rfl, hlt, rfl, q, hq, rfl, hq1, hq2⟩, rfl⟩ := hA
    have hx := som_i hx
    have htc2 := htc
    unfold tcRead at htc2
    split at htc2
    rename_i y2
    rw [Bool.and_eq_true] at y2
    obtain ⟨a1, ha2, ea⟩ := inB_nI y2.1 (by omega)
    obtain ⟨b1, hb2, eb⟩ := inB_nI y2.2 (by omega)
    refine ⟨0, ht, by decide, ⟨(pk_un (by decide)).trans (q9.trans v1), (pk_un (by decide)).trans (q13.trans v5)⟩, fun r V2 I2 J2 hB => ?_⟩
    obtain ⟨hr, rfl, -, rfl, rfl⟩ := mQ_0 hB (by rw [show upd V 5 (nI (n + 1)) 8 = V 0 from (pk_un (by decide)).trans q8]; exact htc)
    exact ⟨_, hr, by simp [upd], fun _ => by rw [j80, hx], fin_read hc hz hmV hmI hmF hmJ hlt (by omega) (vin_of ea (by omega) (by omega)) (vin_of eb (by omega) (by omega)) hq hq1 hq2 (sJs _ _)⟩
    omega
  · obtain ⟨rfl, rfl, rfl, htc⟩ := hA
    refine ⟨t, ht, h4, ⟨q9.trans v1, q13.trans v5⟩, fun r V2 I2 J2 hB => ?_⟩
    obtain ⟨a, b9, c9⟩ := st_f hc hz hmV hmI hmF hmJ hB (by rw [q8]; exact htc) h0
    exact ⟨_, a, b9, fun z => absurd z (by omega), c9⟩

theorem st_strike {ng nr ns n M : Nat} {V : wV} {I : wI} {J : wJ} (hc : cW ng nr ns n M V I) (hz : z28 I) (hmV : mV V) (hmI : mI I) (hmF : mG ng n I) (hmJ : mJ J) {p0 : Int32} {r1 : Option Value} {V1 : wV} {I1 : wI} {J1 : wJ} (hA : (wQv (fun r V9 I9 J9 => tcStrike I n p0 = 0 ∧ r = none ∧ V9 = V ∧ J9 = J ∧ ∃ q, q < n ∧ p0 = nI q ∧ I9 = sI I 22 q (nI 1)) (wXc V I J (tcStrike I n p0))) r1 V1 I1 J1) : ∃ t : Nat, r1 = some (.int (nI t)) ∧ t < 4 ∧ (V1 13 = nI n) ∧ ∀ (r : Option Value) (V2 : wV) (I2 : wI) (J2 : wJ), (mQ ((if inB p0 n = true then (if I1 70 (tn p0) = 0 then 0 else 2) else 1)) none V1 I1 J1 (fun r V9 I9 J9 => r = none ∧ V9 = upd V1 7 (nI 0) ∧ J9 = J1 ∧ ∃ q, q < n ∧ p0 = nI q ∧ I9 = sI I1 70 q (nI 1))) r V2 I2 J2 → r = none ∧ V2 7 = nI t ∧ Inv V2 I2 J2 := by
  obtain ⟨⟨v1, v2, v3, v4, v5, hng, hM⟩, hK, hw, hT9, hS9, hends, hhold, h22, h22n⟩ := id hc
  obtain ⟨q8, q9, q10, q11, q12, q13⟩ := id hmV
  obtain ⟨m51, m52, m53, m54, m56, m57, m58, m59, m64, m65, m66, m67, m68, m69, m70⟩ := id hmI
  have w24 := hw.1.1
  obtain ⟨t, ht, hA⟩ := hA
  rcases hA with ⟨rfl, hA⟩ | ⟨h0, h4, hA⟩
  · obtain ⟨htc, -, rfl, rfl, q, hq, e0, rfl⟩ := hA
    refine ⟨0, ht, by decide, q13.trans v5, fun r V2 I2 J2 hB => ?_⟩
    obtain ⟨hr, rfl, rfl, k2, hk2, e2, rfl⟩ := mQ_0 hB (by rw [show sI I 22 q (nI 1) 70 = I 22 from m70]; exact htc)
    have ekk : k2 = q := (nI_eq (by have := hw.2.2.2.1; omega) (by have := hw.2.2.2.1; omega)).mp (e2.symm.trans e0)
    subst ekk
    exact ⟨hr, pk_us, fin_strike hc hz hmV hmI hmF hmJ hq (js_rf _)⟩
  · obtain ⟨rfl, rfl, rfl, htc⟩ := hA
    refine ⟨t, ht, h4, q13.trans v5, fun r V2 I2 J2 hB => ?_⟩
    obtain ⟨a, b9, c9⟩ := st_f hc hz hmV hmI hmF hmJ hB (by rw [m70]; exact htc) h0
    exact ⟨a, b9, c9⟩

theorem st_pass {ng nr ns n M : Nat} {V : wV} {I : wI} {J : wJ} (hc : cW ng nr ns n M V I) (hz : z28 I) (hmV : mV V) (hmI : mI I) (hmF : mG ng n I) (hmJ : mJ J) {p0 : Int32} {r1 : Option Value} {V1 : wV} {I1 : wI} {J1 : wJ} (hA : (wQi (fun r V9 I9 J9 => tcPass (V 0) p0 = 0 ∧ r = some (.int (V 0 + p0)) ∧ V9 = upd V 0 (V 0 + p0) ∧ I9 = I ∧ J9 = J) (wXc V I J (tcPass (V 0) p0))) r1 V1 I1 J1) : ∃ t : Nat, r1 = some (.int (nI t)) ∧ t < 4 ∧ (True) ∧ ∀ (r : Option Value) (V2 : wV) (I2 : wI) (J2 : wJ), (mQ (tcPass (V1 8) p0) (some (.int (nI 0))) V1 I1 J1 (fun r V9 I9 J9 => r = some (.int (V1 8 + p0)) ∧ V9 = upd (upd V1 7 (nI 0)) 8 (V1 8 + p0) ∧ I9 = I1 ∧ J9 = J1)) r V2 I2 J2 → ∃ b, r = some (.int b) ∧ V2 7 = nI t ∧ (t = 0 → J2 80 0 = b.toInt64) ∧ Inv V2 I2 J2 := by
  obtain ⟨⟨v1, v2, v3, v4, v5, hng, hM⟩, hK, hw, hT9, hS9, hends, hhold, h22, h22n⟩ := id hc
  obtain ⟨q8, q9, q10, q11, q12, q13⟩ := id hmV
  obtain ⟨m51, m52, m53, m54, m56, m57, m58, m59, m64, m65, m66, m67, m68, m69, m70⟩ := id hmI
  have w24 := hw.1.1
  obtain ⟨t, ht, hA⟩ := hA
  rcases hA with ⟨rfl, hA⟩ | ⟨h0, h4, hA⟩
  · obtain ⟨x, J8, ⟨htc, hx, rfl, rfl, rfl⟩, rfl⟩ := hA
    have hx := som_i hx
    have e8 : upd V 0 (V 0 + p0) 8 = V 8 := pk_un (by decide)
    refine ⟨0, ht, by decide, trivial, fun r V2 I2 J2 hB => ?_⟩
    rw [e8] at hB
    obtain ⟨hr, rfl, rfl, rfl⟩ := mQ_0 hB (by rw [q8]; exact htc)
    exact ⟨_, hr, by simp [upd], fun _ => by rw [j80, hx, q8], fin_pass hc hz hmV hmI hmF hmJ (sJs _ _)⟩
  · obtain ⟨rfl, rfl, rfl, htc⟩ := hA
    refine ⟨t, ht, h4, trivial, fun r V2 I2 J2 hB => ?_⟩
    obtain ⟨a, b9, c9⟩ := st_f hc hz hmV hmI hmF hmJ hB (by rw [q8]; exact htc) h0
    exact ⟨_, a, b9, fun z => absurd z (by omega), c9⟩

theorem st_distance {ng nr ns n M : Nat} {V : wV} {I : wI} {J : wJ} (hc : cW ng nr ns n M V I) (hz : z28 I) (hmV : mV V) (hmI : mI I) (hmF : mG ng n I) (hmJ : mJ J) {p0 p1 : Int32} {r1 : Option Value} {V1 : wV} {I1 : wI} {J1 : wJ} (hA : (wQi (fun r V9 I9 J9 => tcDist ng p0 p1 = 0 ∧ V9 = V ∧ I9 = I ∧ J9 = J ∧ ∃ a b, a < ng ∧ b < ng ∧ p0 = nI a ∧ p1 = nI b ∧ r = some (.int (if I (35 + a) b < nI 1000000 then I (35 + a) b else -1))) (wXc V I J (tcDist ng p0 p1))) r1 V1 I1 J1) : ∃ t : Nat, r1 = some (.int (nI t)) ∧ t < 4 ∧ (V1 9 = nI ng ∧ (0 < ng → mF I1)) ∧ ∀ (r : Option Value) (V2 : wV) (I2 : wI) (J2 : wJ), (mQ (tcDist ng p0 p1) (some (.int (nI 0))) V1 I1 J1 (fun r V9 I9 J9 => V9 = upd V1 7 (nI 0) ∧ I9 = I1 ∧ J9 = J1 ∧ ∃ a b, a < ng ∧ b < ng ∧ p0 = nI a ∧ p1 = nI b ∧ r = some (.int (if I1 (35 + a) b < nI 1000000 then I1 (35 + a) b else -1)))) r V2 I2 J2 → ∃ b, r = some (.int b) ∧ V2 7 = nI t ∧ (t = 0 → J2 80 0 = b.toInt64) ∧ Inv V2 I2 J2 := by
  obtain ⟨⟨v1, v2, v3, v4, v5, hng, hM⟩, hK, hw, hT9, hS9, hends, hhold, h22, h22n⟩ := id hc
  obtain ⟨q8, q9, q10, q11, q12, q13⟩ := id hmV
  obtain ⟨m51, m52, m53, m54, m56, m57, m58, m59, m64, m65, m66, m67, m68, m69, m70⟩ := id hmI
  have w24 := hw.1.1
  obtain ⟨t, ht, hA⟩ := hA
  rcases hA with ⟨rfl, hA⟩ | ⟨h0, h4, hA⟩
  · obtain ⟨x, J8, ⟨htc, rfl, rfl, rfl, a, b, ha, hb, e0, e1, hx⟩, rfl⟩ := hA
    have hx := som_i hx
    refine ⟨0, ht, by decide, ⟨q9.trans v1, hmF.2⟩, fun r V2 I2 J2 hB => ?_⟩
    obtain ⟨rfl, rfl, rfl, a2, b2, ha2, hb2, e2, e3, hr⟩ := mQ_0 hB htc
    have ea : a2 = a := (nI_eq (by omega) (by omega)).mp (e2.symm.trans e0)
    have eb : b2 = b := (nI_eq (by omega) (by omega)).mp (e3.symm.trans e1)
    subst ea eb
    exact ⟨_, hr, pk_us, fun _ => by rw [j80, hx], Inv_s hc hmV hmI hmF hmJ (vs_7 _ _) (es_rf _) hz (sJs _ _)⟩
  · obtain ⟨rfl, rfl, rfl, htc⟩ := hA
    refine ⟨t, ht, h4, ⟨q9.trans v1, hmF.2⟩, fun r V2 I2 J2 hB => ?_⟩
    obtain ⟨a, b9, c9⟩ := st_f hc hz hmV hmI hmF hmJ hB (htc) h0
    exact ⟨_, a, b9, fun z => absurd z (by omega), c9⟩

theorem st_way {ng nr ns n M : Nat} {V : wV} {I : wI} {J : wJ} (hc : cW ng nr ns n M V I) (hz : z28 I) (hmV : mV V) (hmI : mI I) (hmF : mG ng n I) (hmJ : mJ J) {p0 p1 p2 : Int32} {r1 : Option Value} {V1 : wV} {I1 : wI} {J1 : wJ} (hA : (wQi (fun r V9 I9 J9 => tcWay ng p0 p1 p2 = 0 ∧ V9 = V ∧ I9 = I ∧ J9 = J ∧ ∃ a b, a < ng ∧ b < ng ∧ p0 = nI a ∧ p1 = nI b ∧ 0 ≤ p2 ∧ r = some (.int (rW I nr b p2 12 0 (nI a)))) (wXc V I J (tcWay ng p0 p1 p2))) r1 V1 I1 J1) : ∃ t : Nat, r1 = some (.int (nI t)) ∧ t < 4 ∧ (V1 9 = nI ng ∧ V1 10 = nI nr ∧ mI I1 ∧ (0 < ng → mF I1) ∧ dK I1 nr) ∧ ∀ (r : Option Value) (V2 : wV) (I2 : wI) (J2 : wJ), (mQ (tcWay ng p0 p1 p2) (some (.int (nI 0))) V1 I1 J1 (fun r V9 I9 J9 => V9 = upd V1 7 (nI 0) ∧ I9 = I1 ∧ J9 = J1 ∧ ∃ a b, a < ng ∧ b < ng ∧ p0 = nI a ∧ p1 = nI b ∧ r = some (.int (rW I1 nr b p2 12 0 (nI a))))) r V2 I2 J2 → ∃ b, r = some (.int b) ∧ V2 7 = nI t ∧ (t = 0 → J2 80 0 = b.toInt64) ∧ Inv V2 I2 J2 := by
  obtain ⟨⟨v1, v2, v3, v4, v5, hng, hM⟩, hK, hw, hT9, hS9, hends, hhold, h22, h22n⟩ := id hc
  obtain ⟨q8, q9, q10, q11, q12, q13⟩ := id hmV
  obtain ⟨m51, m52, m53, m54, m56, m57, m58, m59, m64, m65, m66, m67, m68, m69, m70⟩ := id hmI
  have w24 := hw.1.1
  obtain ⟨t, ht, hA⟩ := hA
  rcases hA with ⟨rfl, hA⟩ | ⟨h0, h4, hA⟩
  · obtain ⟨x, J8, ⟨htc, rfl, rfl, rfl, a, b, ha, hb, e0, e1, -, hx⟩, rfl⟩ := hA
    have hx := som_i hx
    refine ⟨0, ht, by decide, ⟨q9.trans v1, q10.trans v2, hmI, hmF.2, hK⟩, fun r V2 I2 J2 hB => ?_⟩
    obtain ⟨rfl, rfl, rfl, a2, b2, ha2, hb2, e2, e3, hr⟩ := mQ_0 hB htc
    have ea : a2 = a := (nI_eq (by omega) (by omega)).mp (e2.symm.trans e0)
    have eb : b2 = b := (nI_eq (by omega) (by omega)).mp (e3.symm.trans e1)
    subst ea eb
    exact ⟨_, hr, pk_us, fun _ => by rw [j80, hx], Inv_s hc hmV hmI hmF hmJ (vs_7 _ _) (es_rf _) hz (sJs _ _)⟩
  · obtain ⟨rfl, rfl, rfl, htc⟩ := hA
    refine ⟨t, ht, h4, ⟨q9.trans v1, q10.trans v2, hmI, hmF.2, hK⟩, fun r V2 I2 J2 hB => ?_⟩
    obtain ⟨a, b9, c9⟩ := st_f hc hz hmV hmI hmF hmJ hB (htc) h0
    exact ⟨_, a, b9, fun z => absurd z (by omega), c9⟩

theorem st_billed {ng nr ns n M : Nat} {V : wV} {I : wI} {J : wJ} (hc : cW ng nr ns n M V I) (hz : z28 I) (hmV : mV V) (hmI : mI I) (hmF : mG ng n I) (hmJ : mJ J) {p0 : Int32} {r1 : Option Value} {V1 : wV} {I1 : wI} {J1 : wJ} (hA : (wQl (fun r V9 I9 J9 => tcIn p0 10 = 0 ∧ V9 = V ∧ I9 = I ∧ J9 = J ∧ ∃ p, p < 10 ∧ p0 = nI p ∧ r = some (.long (J 31 p))) (wXc V I J (tcIn p0 10))) r1 V1 I1 J1) : ∃ t : Nat, r1 = some (.int (nI t)) ∧ t < 4 ∧ (True) ∧ ∀ (r : Option Value) (V2 : wV) (I2 : wI) (J2 : wJ), (mQ (tcIn p0 10) (some (.long 0)) V1 I1 J1 (fun r V9 I9 J9 => V9 = upd V1 7 (nI 0) ∧ I9 = I1 ∧ J9 = J1 ∧ ∃ p, p < 10 ∧ p0 = nI p ∧ r = some (.long (J1 60 p)))) r V2 I2 J2 → ∃ b, r = some (.long b) ∧ V2 7 = nI t ∧ (t = 0 → J2 80 0 = b) ∧ Inv V2 I2 J2 := by
  obtain ⟨⟨v1, v2, v3, v4, v5, hng, hM⟩, hK, hw, hT9, hS9, hends, hhold, h22, h22n⟩ := id hc
  obtain ⟨q8, q9, q10, q11, q12, q13⟩ := id hmV
  obtain ⟨m51, m52, m53, m54, m56, m57, m58, m59, m64, m65, m66, m67, m68, m69, m70⟩ := id hmI
  have w24 := hw.1.1
  obtain ⟨t, ht, hA⟩ := hA
  rcases hA with ⟨rfl, hA⟩ | ⟨h0, h4, hA⟩
  · obtain ⟨x, J8, ⟨htc, rfl, rfl, rfl, p, hp, e0, hx⟩, rfl⟩ := hA
    have hx := som_l hx
    refine ⟨0, ht, by decide, trivial, fun r V2 I2 J2 hB => ?_⟩
    obtain ⟨rfl, rfl, rfl, p2, hp2, e2, hr⟩ := mQ_0 hB htc
    have ea : p2 = p := (nI_eq (by omega) (by omega)).mp (e2.symm.trans e0)
    subst ea
    refine ⟨_, hr, pk_us, fun _ => ?_, Inv_s hc hmV hmI hmF hmJ (vs_7 _ _) (es_rf _) hz (sJs _ _)⟩
    rw [j80, hx]
    show J8 31 p2 = J8 60 p2
    rw [hmJ.1.1]
  · obtain ⟨rfl, rfl, rfl, htc⟩ := hA
    refine ⟨t, ht, h4, trivial, fun r V2 I2 J2 hB => ?_⟩
    obtain ⟨a, b9, c9⟩ := st_f hc hz hmV hmI hmF hmJ hB (htc) h0
    exact ⟨_, a, b9, fun z => absurd z (by omega), c9⟩

theorem st_own {ng nr ns n M : Nat} {V : wV} {I : wI} {J : wJ} (hc : cW ng nr ns n M V I) (hz : z28 I) (hmV : mV V) (hmI : mI I) (hmF : mG ng n I) (hmJ : mJ J) {p0 : Int32} {r1 : Option Value} {V1 : wV} {I1 : wI} {J1 : wJ} (hA : (wQl (fun r V9 I9 J9 => tcIn p0 10 = 0 ∧ V9 = V ∧ I9 = I ∧ J9 = J ∧ ∃ p, p < 10 ∧ p0 = nI p ∧ r = some (.long (J 30 p))) (wXc V I J (tcIn p0 10))) r1 V1 I1 J1) : ∃ t : Nat, r1 = some (.int (nI t)) ∧ t < 4 ∧ (True) ∧ ∀ (r : Option Value) (V2 : wV) (I2 : wI) (J2 : wJ), (mQ (tcIn p0 10) (some (.long 0)) V1 I1 J1 (fun r V9 I9 J9 => V9 = upd V1 7 (nI 0) ∧ I9 = I1 ∧ J9 = J1 ∧ ∃ p, p < 10 ∧ p0 = nI p ∧ r = some (.long (J1 61 p)))) r V2 I2 J2 → ∃ b, r = some (.long b) ∧ V2 7 = nI t ∧ (t = 0 → J2 80 0 = b) ∧ Inv V2 I2 J2 := by
  obtain ⟨⟨v1, v2, v3, v4, v5, hng, hM⟩, hK, hw, hT9, hS9, hends, hhold, h22, h22n⟩ := id hc
  obtain ⟨q8, q9, q10, q11, q12, q13⟩ := id hmV
  obtain ⟨m51, m52, m53, m54, m56, m57, m58, m59, m64, m65, m66, m67, m68, m69, m70⟩ := id hmI
  have w24 := hw.1.1
  obtain ⟨t, ht, hA⟩ := hA
  rcases hA with ⟨rfl, hA⟩ | ⟨h0, h4, hA⟩
  · obtain ⟨x, J8, ⟨htc, rfl, rfl, rfl, p, hp, e0, hx⟩, rfl⟩ := hA
    have hx := som_l hx
    refine ⟨0, ht, by decide, trivial, fun r V2 I2 J2 hB => ?_⟩
    obtain ⟨rfl, rfl, rfl, p2, hp2, e2, hr⟩ := mQ_0 hB htc
    have ea : p2 = p := (nI_eq (by omega) (by omega)).mp (e2.symm.trans e0)
    subst ea
    refine ⟨_, hr, pk_us, fun _ => ?_, Inv_s hc hmV hmI hmF hmJ (vs_7 _ _) (es_rf _) hz (sJs _ _)⟩
    rw [j80, hx]
    show J8 30 p2 = J8 61 p2
    rw [hmJ.1.2.1]
  · obtain ⟨rfl, rfl, rfl, htc⟩ := hA
    refine ⟨t, ht, h4, trivial, fun r V2 I2 J2 hB => ?_⟩
    obtain ⟨a, b9, c9⟩ := st_f hc hz hmV hmI hmF hmJ hB (htc) h0
    exact ⟨_, a, b9, fun z => absurd z (by omega), c9⟩

theorem st_wallet {ng nr ns n M : Nat} {V : wV} {I : wI} {J : wJ} (hc : cW ng nr ns n M V I) (hz : z28 I) (hmV : mV V) (hmI : mI I) (hmF : mG ng n I) (hmJ : mJ J) {p0 : Int32} {r1 : Option Value} {V1 : wV} {I1 : wI} {J1 : wJ} (hA : (wQl (fun r V9 I9 J9 => tcIn p0 6 = 0 ∧ V9 = V ∧ I9 = I ∧ J9 = J ∧ ∃ p, p < 6 ∧ p0 = nI p ∧ r = some (.long (J 29 p))) (wXc V I J (tcIn p0 6))) r1 V1 I1 J1) : ∃ t : Nat, r1 = some (.int (nI t)) ∧ t < 4 ∧ (True) ∧ ∀ (r : Option Value) (V2 : wV) (I2 : wI) (J2 : wJ), (mQ (tcIn p0 6) (some (.long 0)) V1 I1 J1 (fun r V9 I9 J9 => V9 = upd V1 7 (nI 0) ∧ I9 = I1 ∧ J9 = J1 ∧ ∃ p, p < 6 ∧ p0 = nI p ∧ r = some (.long (J1 62 p)))) r V2 I2 J2 → ∃ b, r = some (.long b) ∧ V2 7 = nI t ∧ (t = 0 → J2 80 0 = b) ∧ Inv V2 I2 J2 := by
  obtain ⟨⟨v1, v2, v3, v4, v5, hng, hM⟩, hK, hw, hT9, hS9, hends, hhold, h22, h22n⟩ := id hc
  obtain ⟨q8, q9, q10, q11, q12, q13⟩ := id hmV
  obtain ⟨m51, m52, m53, m54, m56, m57, m58, m59, m64, m65, m66, m67, m68, m69, m70⟩ := id hmI
  have w24 := hw.1.1
  obtain ⟨t, ht, hA⟩ := hA
  rcases hA with ⟨rfl, hA⟩ | ⟨h0, h4, hA⟩
  · obtain ⟨x, J8, ⟨htc, rfl, rfl, rfl, p, hp, e0, hx⟩, rfl⟩ := hA
    have hx := som_l hx
    refine ⟨0, ht, by decide, trivial, fun r V2 I2 J2 hB => ?_⟩
    obtain ⟨rfl, rfl, rfl, p2, hp2, e2, hr⟩ := mQ_0 hB htc
    have ea : p2 = p := (nI_eq (by omega) (by omega)).mp (e2.symm.trans e0)
    subst ea
    refine ⟨_, hr, pk_us, fun _ => ?_, Inv_s hc hmV hmI hmF hmJ (vs_7 _ _) (es_rf _) hz (sJs _ _)⟩
    rw [j80, hx]
    show J8 29 p2 = J8 62 p2
    rw [hmJ.1.2.2]
  · obtain ⟨rfl, rfl, rfl, htc⟩ := hA
    refine ⟨t, ht, h4, trivial, fun r V2 I2 J2 hB => ?_⟩
    obtain ⟨a, b9, c9⟩ := st_f hc hz hmV hmI hmF hmJ hB (htc) h0
    exact ⟨_, a, b9, fun z => absurd z (by omega), c9⟩

theorem st_journeys {ng nr ns n M : Nat} {V : wV} {I : wI} {J : wJ} (hc : cW ng nr ns n M V I) (hz : z28 I) (hmV : mV V) (hmI : mI I) (hmF : mG ng n I) (hmJ : mJ J) {p0 : Int32} {r1 : Option Value} {V1 : wV} {I1 : wI} {J1 : wJ} (hA : (wQi (fun r V9 I9 J9 => tcIn p0 10 = 0 ∧ scr V I J V9 I9 J9 ∧ ∃ p, p < 10 ∧ p0 = nI p ∧ r = some (.int (nI (fj nr ns p I n).1))) (wXs V I J (tcIn p0 10))) r1 V1 I1 J1) : ∃ t : Nat, r1 = some (.int (nI t)) ∧ t < 4 ∧ (cGd nr n ns M V1 I1 ∧ eqy I1 I) ∧ ∀ (r : Option Value) (V2 : wV) (I2 : wI) (J2 : wJ), (qQ (tcIn p0 10) (some (.int (nI 0))) V1 I1 J1 (fun r => ∃ p, p < 10 ∧ p0 = nI p ∧ r = some (.int (nI (fj nr ns p I n).1)))) r V2 I2 J2 → ∃ b, r = some (.int b) ∧ V2 7 = nI t ∧ (t = 0 → J2 80 0 = b.toInt64) ∧ Inv V2 I2 J2 := by
  obtain ⟨⟨v1, v2, v3, v4, v5, hng, hM⟩, hK, hw, hT9, hS9, hends, hhold, h22, h22n⟩ := id hc
  obtain ⟨q8, q9, q10, q11, q12, q13⟩ := id hmV
  obtain ⟨m51, m52, m53, m54, m56, m57, m58, m59, m64, m65, m66, m67, m68, m69, m70⟩ := id hmI
  have w24 := hw.1.1
  obtain ⟨t, ht, hA⟩ := hA
  have hsc : scr V I J V1 I1 J1 ∨ ∃ J8 x, scr V I J V1 I1 J8 ∧ J1 = sJ J8 80 0 x := by
    rcases hA with ⟨-, x, J8, hP, e⟩ | ⟨-, -, hX⟩
    · exact Or.inr ⟨J8, _, hP.2.1, e⟩
    · exact Or.inl hX.1
  have hv1 : vs V V1 := by rcases hsc with h | ⟨J8, x, h, -⟩ <;> exact vs_c h
  have hi1 : es I I1 := by rcases hsc with h | ⟨J8, x, h, -⟩ <;> exact es_x h.2.1
  have hz1 : z28 I1 := by rcases hsc with h | ⟨J8, x, h, -⟩ <;> exact h.2.2.1
  have hj1 : js J J1 := by
    rcases hsc with h | ⟨J8, x, h, e⟩
    · rw [h.2.2.2]; exact js_rf _
    · rw [e, h.2.2.2]; exact sJs _ _
  have hcg := cGd_of hc hmV hmI hmF hv1 hi1
  have e80 : V1 8 = V 0 := (hv1 8 (by decide) (by decide) (by decide)).trans q8
  refine ⟨t, ht, by rcases hA with ⟨h, -⟩ | ⟨-, h, -⟩ <;> omega, ⟨hcg, eqy_b (eqy_x (eqx_rf I)) hi1⟩, fun r V2 I2 J2 hB => ?_⟩
  obtain ⟨h7, hfv, hgk, hfq, hB⟩ := hB
  have hInv : Inv V2 I2 J2 := Inv_s hc hmV hmI hmF hmJ (vs_tr hv1 (vs_f hfv)) (es_tr hi1 (es_k hgk)) (z28_es hz1 (hgk 28 (by omega))) (js_tr hj1 (js_q hfq))
  rcases hA with ⟨rfl, hA⟩ | ⟨h0, h4, hA⟩
  · obtain ⟨x, J8, ⟨htc, -, hA⟩, hJ1⟩ := hA
    obtain ⟨-, hB⟩ := hB.resolve_right (fun z => by have := z.1; omega)
    have hj80 : J2 80 0 = x.toInt64 := by rw [hfq 80 (by omega), hJ1]; exact j80 _ _
    obtain ⟨p, hp, zp, hx⟩ := hA
    obtain ⟨p2, hp2, wp, hr⟩ := hB
    have ep : p2 = p := (nI_eq (by omega) (by omega)).mp (wp.symm.trans zp)
    subst ep
    exact ⟨_, hr, by rw [h7, htc], fun _ => by rw [hj80, som_i hx], hInv⟩
  · obtain ⟨-, htc⟩ := hA
    obtain ⟨-, hB⟩ := hB.resolve_left (fun z => by have := z.1; omega)
    exact ⟨_, hB, by rw [h7, htc], fun z => absurd z (by omega), hInv⟩

theorem st_due {ng nr ns n M : Nat} {V : wV} {I : wI} {J : wJ} (hc : cW ng nr ns n M V I) (hz : z28 I) (hmV : mV V) (hmI : mI I) (hmF : mG ng n I) (hmJ : mJ J) {p0 : Int32} {r1 : Option Value} {V1 : wV} {I1 : wI} {J1 : wJ} (hA : (wQl (fun r V9 I9 J9 => tcIn p0 10 = 0 ∧ scr V I J V9 I9 J9 ∧ ∃ p, p < 10 ∧ p0 = nI p ∧ r = some (.long (sF (fj nr ns p I n).2.2 (V 0) (V 3) (fj nr ns p I n).1))) (wXs V I J (tcIn p0 10))) r1 V1 I1 J1) : ∃ t : Nat, r1 = some (.int (nI t)) ∧ t < 4 ∧ (cGd nr n ns M V1 I1 ∧ eqy I1 I) ∧ ∀ (r : Option Value) (V2 : wV) (I2 : wI) (J2 : wJ), (qQ (tcIn p0 10) (some (.long 0)) V1 I1 J1 (fun r => ∃ p, p < 10 ∧ p0 = nI p ∧ r = some (.long (sF (fj nr ns p I n).2.2 (V1 8) (nI M) (fj nr ns p I n).1)))) r V2 I2 J2 → ∃ b, r = some (.long b) ∧ V2 7 = nI t ∧ (t = 0 → J2 80 0 = b) ∧ Inv V2 I2 J2 := by
  obtain ⟨⟨v1, v2, v3, v4, v5, hng, hM⟩, hK, hw, hT9, hS9, hends, hhold, h22, h22n⟩ := id hc
  obtain ⟨q8, q9, q10, q11, q12, q13⟩ := id hmV
  obtain ⟨m51, m52, m53, m54, m56, m57, m58, m59, m64, m65, m66, m67, m68, m69, m70⟩ := id hmI
  have w24 := hw.1.1
  obtain ⟨t, ht, hA⟩ := hA
  have hsc : scr V I J V1 I1 J1 ∨ ∃ J8 x, scr V I J V1 I1 J8 ∧ J1 = sJ J8 80 0 x := by
    rcases hA with ⟨-, x, J8, hP, e⟩ | ⟨-, -, hX⟩
    · exact Or.inr ⟨J8, _, hP.2.1, e⟩
    · exact Or.inl hX.1
  have hv1 : vs V V1 := by rcases hsc with h | ⟨J8, x, h, -⟩ <;> exact vs_c h
  have hi1 : es I I1 := by rcases hsc with h | ⟨J8, x, h, -⟩ <;> exact es_x h.2.1
  have hz1 : z28 I1 := by rcases hsc with h | ⟨J8, x, h, -⟩ <;> exact h.2.2.1
  have hj1 : js J J1 := by
    rcases hsc with h | ⟨J8, x, h, e⟩
    · rw [h.2.2.2]; exact js_rf _
    · rw [e, h.2.2.2]; exact sJs _ _
  have hcg := cGd_of hc hmV hmI hmF hv1 hi1
  have e80 : V1 8 = V 0 := (hv1 8 (by decide) (by decide) (by decide)).trans q8
  refine ⟨t, ht, by rcases hA with ⟨h, -⟩ | ⟨-, h, -⟩ <;> omega, ⟨hcg, eqy_b (eqy_x (eqx_rf I)) hi1⟩, fun r V2 I2 J2 hB => ?_⟩
  obtain ⟨h7, hfv, hgk, hfq, hB⟩ := hB
  have hInv : Inv V2 I2 J2 := Inv_s hc hmV hmI hmF hmJ (vs_tr hv1 (vs_f hfv)) (es_tr hi1 (es_k hgk)) (z28_es hz1 (hgk 28 (by omega))) (js_tr hj1 (js_q hfq))
  rcases hA with ⟨rfl, hA⟩ | ⟨h0, h4, hA⟩
  · obtain ⟨x, J8, ⟨htc, -, hA⟩, hJ1⟩ := hA
    obtain ⟨-, hB⟩ := hB.resolve_right (fun z => by have := z.1; omega)
    have hj80 : J2 80 0 = x := by rw [hfq 80 (by omega), hJ1]; exact j80 _ _
    obtain ⟨p, hp, zp, hx⟩ := hA
    obtain ⟨p2, hp2, wp, hr⟩ := hB
    have ep : p2 = p := (nI_eq (by omega) (by omega)).mp (wp.symm.trans zp)
    subst ep
    exact ⟨_, hr, by rw [h7, htc], fun _ => by rw [hj80, som_l hx, e80, v3], hInv⟩
  · obtain ⟨-, htc⟩ := hA
    obtain ⟨-, hB⟩ := hB.resolve_left (fun z => by have := z.1; omega)
    exact ⟨_, hB, by rw [h7, htc], fun z => absurd z (by omega), hInv⟩

theorem st_journey {ng nr ns n M : Nat} {V : wV} {I : wI} {J : wJ} (hc : cW ng nr ns n M V I) (hz : z28 I) (hmV : mV V) (hmI : mI I) (hmF : mG ng n I) (hmJ : mJ J) {p0 p1 p2 : Int32} {r1 : Option Value} {V1 : wV} {I1 : wI} {J1 : wJ} (hA : (wQi (fun r V9 I9 J9 => tcJourney (if inB p0 10 = true then (fj nr ns (tn p0) I n).1 else 0) p0 p1 p2 = 0 ∧ scr V I J V9 I9 J9 ∧ ∃ p j, p < 10 ∧ j < (fj nr ns p I n).1 ∧ p0 = nI p ∧ p1 = nI j ∧ ((p2 = nI 0 ∧ r = some (.int ((fj nr ns p I n).2.2 24 j))) ∨ (p2 = nI 1 ∧ r = some (.int ((fj nr ns p I n).2.2 25 j))) ∨ (p2 = nI 2 ∧ r = some (.int ((fj nr ns p I n).2.2 26 j))) ∨ (p2 = nI 3 ∧ r = some (.int (fr (fj nr ns p I n).2.2 j (V 3)))) ∨ (p2 = nI 4 ∧ r = some (.int (if V 0 - (fj nr ns p I n).2.2 25 j < nI 60 then nI 0 else nI 1))) ∨ ∃ o, o < 4 ∧ p2 = nI (5 + o) ∧ r = some (.int (shr (fj nr ns p I n).2.2 j o (V 3))))) (wXs V I J (tcJourney (if inB p0 10 = true then (fj nr ns (tn p0) I n).1 else 0) p0 p1 p2))) r1 V1 I1 J1) : ∃ t : Nat, r1 = some (.int (nI t)) ∧ t < 4 ∧ (cGd nr n ns M V1 I1 ∧ eqy I1 I) ∧ ∀ (r : Option Value) (V2 : wV) (I2 : wI) (J2 : wJ), (qQ (tcJourney (if inB p0 10 = true then (fj nr ns (tn p0) I n).1 else 0) p0 p1 p2) (some (.int (nI 0))) V1 I1 J1 (fun r => ∃ p j, p < 10 ∧ j < (fj nr ns p I n).1 ∧ p0 = nI p ∧ p1 = nI j ∧ ((p2 = nI 0 ∧ r = some (.int ((fj nr ns p I n).2.2 24 j))) ∨ (p2 = nI 1 ∧ r = some (.int ((fj nr ns p I n).2.2 25 j))) ∨ (p2 = nI 2 ∧ r = some (.int ((fj nr ns p I n).2.2 26 j))) ∨ (p2 = nI 3 ∧ r = some (.int (fr (fj nr ns p I n).2.2 j (nI M)))) ∨ (p2 = nI 4 ∧ r = some (.int (if V1 8 - (fj nr ns p I n).2.2 25 j < nI 60 then nI 0 else nI 1))) ∨ ∃ o, o < 4 ∧ p2 = nI (5 + o) ∧ r = some (.int (shr (fj nr ns p I n).2.2 j o (nI M)))))) r V2 I2 J2 → ∃ b, r = some (.int b) ∧ V2 7 = nI t ∧ (t = 0 → J2 80 0 = b.toInt64) ∧ Inv V2 I2 J2 := by
  obtain ⟨⟨v1, v2, v3, v4, v5, hng, hM⟩, hK, hw, hT9, hS9, hends, hhold, h22, h22n⟩ := id hc
  obtain ⟨q8, q9, q10, q11, q12, q13⟩ := id hmV
  obtain ⟨m51, m52, m53, m54, m56, m57, m58, m59, m64, m65, m66, m67, m68, m69, m70⟩ := id hmI
  have w24 := hw.1.1
  obtain ⟨t, ht, hA⟩ := hA
  have hsc : scr V I J V1 I1 J1 ∨ ∃ J8 x, scr V I J V1 I1 J8 ∧ J1 = sJ J8 80 0 x := by
    rcases hA with ⟨-, x, J8, hP, e⟩ | ⟨-, -, hX⟩
    · exact Or.inr ⟨J8, _, hP.2.1, e⟩
    · exact Or.inl hX.1
  have hv1 : vs V V1 := by rcases hsc with h | ⟨J8, x, h, -⟩ <;> exact vs_c h
  have hi1 : es I I1 := by rcases hsc with h | ⟨J8, x, h, -⟩ <;> exact es_x h.2.1
  have hz1 : z28 I1 := by rcases hsc with h | ⟨J8, x, h, -⟩ <;> exact h.2.2.1
  have hj1 : js J J1 := by
    rcases hsc with h | ⟨J8, x, h, e⟩
    · rw [h.2.2.2]; exact js_rf _
    · rw [e, h.2.2.2]; exact sJs _ _
  have hcg := cGd_of hc hmV hmI hmF hv1 hi1
  have e80 : V1 8 = V 0 := (hv1 8 (by decide) (by decide) (by decide)).trans q8
  refine ⟨t, ht, by rcases hA with ⟨h, -⟩ | ⟨-, h, -⟩ <;> omega, ⟨hcg, eqy_b (eqy_x (eqx_rf I)) hi1⟩, fun r V2 I2 J2 hB => ?_⟩
  obtain ⟨h7, hfv, hgk, hfq, hB⟩ := hB
  have hInv : Inv V2 I2 J2 := Inv_s hc hmV hmI hmF hmJ (vs_tr hv1 (vs_f hfv)) (es_tr hi1 (es_k hgk)) (z28_es hz1 (hgk 28 (by omega))) (js_tr hj1 (js_q hfq))
  rcases hA with ⟨rfl, hA⟩ | ⟨h0, h4, hA⟩
  · obtain ⟨x, J8, ⟨htc, -, hA⟩, hJ1⟩ := hA
    obtain ⟨-, hB⟩ := hB.resolve_right (fun z => by have := z.1; omega)
    have hj80 : J2 80 0 = x.toInt64 := by rw [hfq 80 (by omega), hJ1]; exact j80 _ _
    obtain ⟨p, j, hp, hj, zp, zj, hx⟩ := hA
    obtain ⟨p2, j2, hp2, hj2, wp, wj, hr⟩ := hB
    have ep : p2 = p := (nI_eq (by omega) (by omega)).mp (wp.symm.trans zp)
    subst ep
    have hcn := fj_n (plate := p2) hcg (eqy_b (eqy_x (eqx_rf I)) hi1)
    have ej : j2 = j := (nI_eq (by omega) (by omega)).mp (wj.symm.trans zj)
    subst ej
    rw [e80] at hr
    rw [v3] at hx
    have key : ∃ y, r = some (.int y) ∧ (some (.int x) : Option Value) = some (.int y) := by
      have ne : ∀ a b : Nat, a < 100 → b < 100 → nI a = nI b → a = b := fun a b h1 h2 h3 => (nI_eq (by omega) (by omega)).mp h3
      rcases hx with ⟨c, hx⟩ | ⟨c, hx⟩ | ⟨c, hx⟩ | ⟨c, hx⟩ | ⟨c, hx⟩ | ⟨o, ho, c, hx⟩ <;> rcases hr with ⟨d, hr⟩ | ⟨d, hr⟩ | ⟨d, hr⟩ | ⟨d, hr⟩ | ⟨d, hr⟩ | ⟨o2, ho2, d, hr⟩ <;> (have z := ne _ _ (by omega) (by omega) (c.symm.trans d)) <;> first | exact ⟨_, hr, hx⟩ | (exfalso; omega) | (obtain rfl : o = o2 := (by omega); exact ⟨_, hr, hx⟩)
    obtain ⟨y, hy1, hy2⟩ := key
    exact ⟨y, hy1, by rw [h7, htc], fun _ => by rw [hj80, som_i hy2], hInv⟩
  · obtain ⟨-, htc⟩ := hA
    obtain ⟨-, hB⟩ := hB.resolve_left (fun z => by have := z.1; omega)
    exact ⟨_, hB, by rw [h7, htc], fun z => absurd z (by omega), hInv⟩

theorem st_ofReading {ng nr ns n M : Nat} {V : wV} {I : wI} {J : wJ} (hc : cW ng nr ns n M V I) (hz : z28 I) (hmV : mV V) (hmI : mI I) (hmF : mG ng n I) (hmJ : mJ J) {p0 p1 : Int32} {r1 : Option Value} {V1 : wV} {I1 : wI} {J1 : wJ} (hA : (wQi (fun r V9 I9 J9 => tcOfR n p0 p1 = 0 ∧ scr V I J V9 I9 J9 ∧ ∃ q, q < n ∧ p0 = nI q ∧ ((p1 = nI 0 ∧ r = some (.int (I 19 q))) ∨ (p1 = nI 1 ∧ r = some (.int (I 20 q))) ∨ (p1 = nI 2 ∧ r = some (.int (I 21 q))) ∨ (p1 = nI 3 ∧ r = some (.int (I 22 q))) ∨ (p1 = nI 4 ∧ r = some (.int (if I 22 q = 0 then (fj nr ns (tn (I 20 q)) I n).2.2 28 q else nI 0))) ∨ (p1 = nI 5 ∧ r = some (.int (if I 22 q = 0 then (fj nr ns (tn (I 20 q)) I n).2.2 27 q else -1))))) (wXs V I J (tcOfR n p0 p1))) r1 V1 I1 J1) : ∃ t : Nat, r1 = some (.int (nI t)) ∧ t < 4 ∧ (cGd nr n ns M V1 I1 ∧ eqy I1 I ∧ ∀ r, I1 22 r = 0 ∨ I1 22 r = 1) ∧ ∀ (r : Option Value) (V2 : wV) (I2 : wI) (J2 : wJ), (qQ (tcOfR n p0 p1) (some (.int (nI 0))) V1 I1 J1 (fun r => ∃ q, q < n ∧ p0 = nI q ∧ ((p1 = nI 0 ∧ r = some (.int (I1 19 q))) ∨ (p1 = nI 1 ∧ r = some (.int (I1 20 q))) ∨ (p1 = nI 2 ∧ r = some (.int (I1 21 q))) ∨ (p1 = nI 3 ∧ r = some (.int (I1 22 q))) ∨ (p1 = nI 4 ∧ r = some (.int (if I1 22 q = 0 then (fj nr ns (tn (I1 20 q)) I n).2.2 28 q else nI 0))) ∨ (p1 = nI 5 ∧ r = some (.int (if I1 22 q = 0 then (fj nr ns (tn (I1 20 q)) I n).2.2 27 q else -1)))))) r V2 I2 J2 → ∃ b, r = some (.int b) ∧ V2 7 = nI t ∧ (t = 0 → J2 80 0 = b.toInt64) ∧ Inv V2 I2 J2 := by
  obtain ⟨⟨v1, v2, v3, v4, v5, hng, hM⟩, hK, hw, hT9, hS9, hends, hhold, h22, h22n⟩ := id hc
  obtain ⟨q8, q9, q10, q11, q12, q13⟩ := id hmV
  obtain ⟨m51, m52, m53, m54, m56, m57, m58, m59, m64, m65, m66, m67, m68, m69, m70⟩ := id hmI
  have w24 := hw.1.1
  obtain ⟨t, ht, hA⟩ := hA
  have hsc : scr V I J V1 I1 J1 ∨ ∃ J8 x, scr V I J V1 I1 J8 ∧ J1 = sJ J8 80 0 x := by
    rcases hA with ⟨-, x, J8, hP, e⟩ | ⟨-, -, hX⟩
    · exact Or.inr ⟨J8, _, hP.2.1, e⟩
    · exact Or.inl hX.1
  have hv1 : vs V V1 := by rcases hsc with h | ⟨J8, x, h, -⟩ <;> exact vs_c h
  have hi1 : es I I1 := by rcases hsc with h | ⟨J8, x, h, -⟩ <;> exact es_x h.2.1
  have hz1 : z28 I1 := by rcases hsc with h | ⟨J8, x, h, -⟩ <;> exact h.2.2.1
  have hj1 : js J J1 := by
    rcases hsc with h | ⟨J8, x, h, e⟩
    · rw [h.2.2.2]; exact js_rf _
    · rw [e, h.2.2.2]; exact sJs _ _
  have hcg := cGd_of hc hmV hmI hmF hv1 hi1
  have e80 : V1 8 = V 0 := (hv1 8 (by decide) (by decide) (by decide)).trans q8
  refine ⟨t, ht, by rcases hA with ⟨h, -⟩ | ⟨-, h, -⟩ <;> omega, ⟨hcg, eqy_b (eqy_x (eqx_rf I)) hi1, by rw [hi1 22 (by omega)]; exact h22⟩, fun r V2 I2 J2 hB => ?_⟩
  obtain ⟨h7, hfv, hgk, hfq, hB⟩ := hB
  have hInv : Inv V2 I2 J2 := Inv_s hc hmV hmI hmF hmJ (vs_tr hv1 (vs_f hfv)) (es_tr hi1 (es_k hgk)) (z28_es hz1 (hgk 28 (by omega))) (js_tr hj1 (js_q hfq))
  rcases hA with ⟨rfl, hA⟩ | ⟨h0, h4, hA⟩
  · obtain ⟨x, J8, ⟨htc, -, hA⟩, hJ1⟩ := hA
    obtain ⟨-, hB⟩ := hB.resolve_right (fun z => by have := z.1; omega)
    have hj80 : J2 80 0 = x.toInt64 := by rw [hfq 80 (by omega), hJ1]; exact j80 _ _
    obtain ⟨q, hq, zq, hx⟩ := hA
    obtain ⟨q2, hq2, wq, hr⟩ := hB
    have w100 := hw.2.2.2.1
    have eq : q2 = q := (nI_eq (by omega) (by omega)).mp (wq.symm.trans zq)
    subst eq
    rw [hi1 19 (by omega), hi1 20 (by omega), hi1 21 (by omega), hi1 22 (by omega)] at hr
    have key : ∃ y, r = some (.int y) ∧ (some (.int x) : Option Value) = some (.int y) := by
      have ne : ∀ a b : Nat, a < 100 → b < 100 → nI a = nI b → a = b := fun a b h1 h2 h3 => (nI_eq (by omega) (by omega)).mp h3
      rcases hx with ⟨c, hx⟩ | ⟨c, hx⟩ | ⟨c, hx⟩ | ⟨c, hx⟩ | ⟨c, hx⟩ | ⟨c, hx⟩ <;> rcases hr with ⟨d, hr⟩ | ⟨d, hr⟩ | ⟨d, hr⟩ | ⟨d, hr⟩ | ⟨d, hr⟩ | ⟨d, hr⟩ <;> (have z := ne _ _ (by omega) (by omega) (c.symm.trans d)) <;> first | exact ⟨_, hr, hx⟩ | (exfalso; omega)
    obtain ⟨y, hy1, hy2⟩ := key
    exact ⟨y, hy1, by rw [h7, htc], fun _ => by rw [hj80, som_i hy2], hInv⟩
  · obtain ⟨-, htc⟩ := hA
    obtain ⟨-, hB⟩ := hB.resolve_left (fun z => by have := z.1; omega)
    exact ⟨_, hB, by rw [h7, htc], fun z => absurd z (by omega), hInv⟩

theorem st_share {ng nr ns n M : Nat} {V : wV} {I : wI} {J : wJ} (hc : cW ng nr ns n M V I) (hz : z28 I) (hmV : mV V) (hmI : mI I) (hmF : mG ng n I) (hmJ : mJ J) {p0 p1 : Int32} {r1 : Option Value} {V1 : wV} {I1 : wI} {J1 : wJ} (hA : (wQl (fun r V9 I9 J9 => tcIn p0 4 = 0 ∧ scr V I J V9 I9 J9 ∧ ∃ o, o < 4 ∧ p0 = nI o ∧ r = some (.long (if p1 = 0 then J 32 o else (dO nr ns n o V I 10).1))) (wXs V I J (tcIn p0 4))) r1 V1 I1 J1) : ∃ t : Nat, r1 = some (.int (nI t)) ∧ t < 4 ∧ (cGd nr n ns M V1 I1 ∧ ∀ p, p < 10 → eqy I1 ((fun p => (dO nr ns n (tn p0) V I p).2.2) p)) ∧ ∀ (r : Option Value) (V2 : wV) (I2 : wI) (J2 : wJ), (qQ (tcIn p0 4) (some (.long 0)) V1 I1 J1 (fun r => ∃ o, o < 4 ∧ p0 = nI o ∧ r = some (.long (if p1 = 0 then J1 63 o else dS nr ns n o (fun p => (dO nr ns n (tn p0) V I p).2.2) (V1 8) (nI M) 10)))) r V2 I2 J2 → ∃ b, r = some (.long b) ∧ V2 7 = nI t ∧ (t = 0 → J2 80 0 = b) ∧ Inv V2 I2 J2 := by
  obtain ⟨⟨v1, v2, v3, v4, v5, hng, hM⟩, hK, hw, hT9, hS9, hends, hhold, h22, h22n⟩ := id hc
  obtain ⟨q8, q9, q10, q11, q12, q13⟩ := id hmV
  obtain ⟨m51, m52, m53, m54, m56, m57, m58, m59, m64, m65, m66, m67, m68, m69, m70⟩ := id hmI
  have w24 := hw.1.1
  obtain ⟨t, ht, hA⟩ := hA
  have hsc : scr V I J V1 I1 J1 ∨ ∃ J8 x, scr V I J V1 I1 J8 ∧ J1 = sJ J8 80 0 x := by
    rcases hA with ⟨-, x, J8, hP, e⟩ | ⟨-, -, hX⟩
    · exact Or.inr ⟨J8, _, hP.2.1, e⟩
    · exact Or.inl hX.1
  have hv1 : vs V V1 := by rcases hsc with h | ⟨J8, x, h, -⟩ <;> exact vs_c h
  have hi1 : es I I1 := by rcases hsc with h | ⟨J8, x, h, -⟩ <;> exact es_x h.2.1
  have hz1 : z28 I1 := by rcases hsc with h | ⟨J8, x, h, -⟩ <;> exact h.2.2.1
  have hj1 : js J J1 := by
    rcases hsc with h | ⟨J8, x, h, e⟩
    · rw [h.2.2.2]; exact js_rf _
    · rw [e, h.2.2.2]; exact sJs _ _
  have hcg := cGd_of hc hmV hmI hmF hv1 hi1
  have e80 : V1 8 = V 0 := (hv1 8 (by decide) (by decide) (by decide)).trans q8
  refine ⟨t, ht, by rcases hA with ⟨h, -⟩ | ⟨-, h, -⟩ <;> omega, ⟨hcg, fun p _ => eqy_b (eqy_x (dO_ok (V := V) (J := J) hw hz p).2.1) hi1⟩, fun r V2 I2 J2 hB => ?_⟩
  obtain ⟨h7, hfv, hgk, hfq, hB⟩ := hB
  have hInv : Inv V2 I2 J2 := Inv_s hc hmV hmI hmF hmJ (vs_tr hv1 (vs_f hfv)) (es_tr hi1 (es_k hgk)) (z28_es hz1 (hgk 28 (by omega))) (js_tr hj1 (js_q hfq))
  rcases hA with ⟨rfl, hA⟩ | ⟨h0, h4, hA⟩
  · obtain ⟨x, J8, ⟨htc, -, hA⟩, hJ1⟩ := hA
    obtain ⟨-, hB⟩ := hB.resolve_right (fun z => by have := z.1; omega)
    have hj80 : J2 80 0 = x := by rw [hfq 80 (by omega), hJ1]; exact j80 _ _
    obtain ⟨o9, ho, zo, hx⟩ := hA
    obtain ⟨o2, ho2, wo, hr⟩ := hB
    have eo : o2 = o9 := (nI_eq (by omega) (by omega)).mp (wo.symm.trans zo)
    subst eo
    have eto : tn p0 = o2 := by rw [zo]; exact nI_clamp (by omega)
    rw [eto, e80] at hr
    refine ⟨_, hr, by rw [h7, htc], fun _ => ?_, hInv⟩
    rw [hj80, som_l hx]
    by_cases z : p1 = 0
    · rw [if_pos z, if_pos z, hj1 63 (by omega)]; exact (hmJ.2 o2 ho).symm
    · rw [if_neg z, if_neg z, ← v3]; exact dO_s _ _ _ _ _ _ 10
  · obtain ⟨-, htc⟩ := hA
    obtain ⟨-, hB⟩ := hB.resolve_left (fun z => by have := z.1; omega)
    exact ⟨_, hB, by rw [h7, htc], fun z => absurd z (by omega), hInv⟩

