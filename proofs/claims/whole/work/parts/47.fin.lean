/-! what is left behind a call that does what is asked: the invariant again -/
theorem fin_gate {ng nr ns n M : Nat} {V : wV} {I : wI} {J J2 : wJ} (hc : cW ng nr ns n M V I) (hz : z28 I) (hmV : mV V) (hmI : mI I) (hmF : mG ng n I) (hmJ : mJ J) {f : Nat → Int32} (hg : ng < 12) (hF : mF (uI I 55 f)) (hJ : js J J2) : Inv (upd (upd (upd V 1 (nI (ng + 1))) 7 (nI 0)) 9 (nI (ng + 1))) (uI I 55 f) J2 := by
  obtain ⟨⟨a1, a2, a3, a4, a5, a6, a7⟩, h1, h2, h3, h4, h5, h6, h7, h8⟩ := hc
  obtain ⟨b0, b1, b2, b3, b4, b5⟩ := hmV
  obtain ⟨m51, m52, m53, m54, m56, m57, m58, m59, m64, m65, m66, m67, m68, m69, m70⟩ := id hmI
  have ei : eqy I (uI I 55 f) := eqy_u I (by omega)
  exact ⟨ng + 1, nr, ns, n, M, ⟨⟨by simp [upd], by simp [upd, a2], by simp [upd, a3], by simp [upd, a4], by simp [upd, a5], (by omega), a7⟩, dK_y h1 ei, wfC_y h2 ei, wT_y h3 ei, wS_x h4 rfl rfl, fun r hr => ⟨Nat.lt_succ_of_lt (h5 r hr).1, Nat.lt_succ_of_lt (h5 r hr).2⟩, h6, h7, h8⟩, hz, ⟨by simp [upd, b0], by simp [upd, b1], by simp [upd, b2], by simp [upd, b3], by simp [upd, b4], by simp [upd, b5]⟩, hmI, ⟨fun _ => Nat.succ_pos _, fun _ => hF⟩, mJ_s hmJ hJ⟩
theorem fin_road {ng nr ns n M : Nat} {V : wV} {I : wI} {J J2 : wJ} (hc : cW ng nr ns n M V I) (hz : z28 I) (hmV : mV V) (hmI : mI I) (hmF : mG ng n I) (hmJ : mJ J) {I1 : wI} {f : Nat → Int32} {p0 p1 p2 p3 : Int32} {k o a b : Nat} (hr : nr < 24) (ha : a < ng) (hb : b < ng) (e0 : p0 = nI a) (e1 : p1 = nI b) (hk : k ≤ 50) (ek : p2 = nI k) (ho : o < 4) (eo : p3 = nI o) (g1 : dK I1 (nr + 1)) (g2 : ∀ r, r < nr + 1 → fO I1 r < ng ∧ fP I1 r < ng) (g8 : I1 8 = upd (I 8) nr (nI a)) (g9 : I1 9 = upd (I 9) nr (nI b)) (g10 : I1 10 = upd (I 10) nr p2) (g11 : I1 11 = upd (I 11) nr p3) (gx : ∀ c, (c < 8 ∨ (11 < c ∧ c < 35) ∨ 46 < c) → I1 c = I c) (hF : mF (uI (sI (sI (sI (sI I1 51 nr p0) 52 nr p1) 53 nr p2) 54 nr p3) 55 f)) (hJ : js J J2) : Inv (upd (upd (upd V 2 (nI (nr + 1))) 7 (nI 0)) 10 (nI (nr + 1))) (uI (sI (sI (sI (sI I1 51 nr p0) 52 nr p1) 53 nr p2) 54 nr p3) 55 f) J2 := by
  obtain ⟨⟨a1, a2, a3, a4, a5, a6, a7⟩, h1, h2, h3, h4, h5, h6, h7, h8⟩ := hc
  obtain ⟨b0, b1, b2, b3, b4, b5⟩ := hmV
  obtain ⟨m51, m52, m53, m54, m56, m57, m58, m59, m64, m65, m66, m67, m68, m69, m70⟩ := id hmI
  generalize hI2 : uI (sI (sI (sI (sI I1 51 nr p0) 52 nr p1) 53 nr p2) 54 nr p3) 55 f = I2 at hF ⊢
  have c51 : I2 51 = upd (I 51) nr p0 := by rw [← hI2, ← gx 51 (by omega)]; rfl
  have c52 : I2 52 = upd (I 52) nr p1 := by rw [← hI2, ← gx 52 (by omega)]; rfl
  have c53 : I2 53 = upd (I 53) nr p2 := by rw [← hI2, ← gx 53 (by omega)]; rfl
  have c54 : I2 54 = upd (I 54) nr p3 := by rw [← hI2, ← gx 54 (by omega)]; rfl
  have cx : ∀ c, c < 51 ∨ 55 < c → I2 c = I1 c := fun c hc => by
    rw [← hI2, uI_n (by omega)]
    show uI (uI (uI (uI I1 51 _) 52 _) 53 _) 54 _ c = I1 c
    rw [uI_n (by omega), uI_n (by omega), uI_n (by omega), uI_n (by omega)]
  have ei : eqy I1 I2 := fun c hc => cx c (by omega)
  have cy : ∀ c, (11 < c ∧ c < 35) ∨ (55 < c) → I2 c = I c := fun c hc => (cx c (by omega)).trans (gx c (by omega))
  obtain ⟨w1, w2, w3, w4, w5, w6, w7⟩ := h2
  have hw1 : wfC I1 (nr + 1) n ns := by
    refine ⟨g1.2.2, fun r hr9 => ?_, w3, w4, fun q hq => by rw [gx 23 (by omega)]; exact w5 q hq, fun r hr9 => by rw [gx 19 (by omega), gx 20 (by omega)]; exact w6 r hr9, fun q hq => by rw [gx 14 (by omega)]; exact w7 q hq⟩
    rw [g11]
    by_cases z : r = nr
    · rw [z, pk_us]; exact vin_of eo ho (by omega)
    · rw [pk_un z]; exact w2 r (by omega)
  have hw2 : wT I1 (nr + 1) := by
    refine ⟨fun r hr9 => ?_, fun q hq => by rw [gx 12 (by omega), gx 13 (by omega)]; exact h3.2 q hq⟩
    rw [g10]
    by_cases z : r = nr
    · rw [z, pk_us]; exact ⟨k, hk, ek⟩
    · rw [pk_un z]; exact h3.1 r (by omega)
  refine ⟨ng, nr + 1, ns, n, M, ⟨⟨by simp [upd, a1], by simp [upd], by simp [upd, a3], by simp [upd, a4], by simp [upd, a5], a6, a7⟩, dK_y g1 ei, wfC_y hw1 ei, wT_y hw2 ei, wS_x h4 (cy 21 (by omega)) (cy 23 (by omega)), ?_, by rw [cy 15 (by omega)]; exact h6, by rw [cy 22 (by omega)]; exact h7, by rw [cy 22 (by omega)]; exact h8⟩, ?_, ⟨by simp [upd, b0], by simp [upd, b1], by simp [upd, b2], by simp [upd, b3], by simp [upd, b4], by simp [upd, b5]⟩, ?_, ⟨hmF.1, fun _ => hF⟩, mJ_s hmJ hJ⟩
  · rw [show fO I2 = fO I1 by unfold fO; rw [cx 8 (by omega)], show fP I2 = fP I1 by unfold fP; rw [cx 9 (by omega)]]
    exact g2
  · unfold z28; rw [cy 28 (by omega)]; exact hz
  · refine ⟨?_, ?_, ?_, ?_, ?_, ?_, ?_, ?_, ?_, ?_, ?_, ?_, ?_, ?_, ?_⟩
    · rw [c51, cx 8 (by omega), g8, m51, e0]
    · rw [c52, cx 9 (by omega), g9, m52, e1]
    · rw [c53, cx 10 (by omega), g10, m53]
    · rw [c54, cx 11 (by omega), g11, m54]
    · rw [cy 56 (by omega), cy 12 (by omega)]; exact m56
    · rw [cy 57 (by omega), cy 13 (by omega)]; exact m57
    · rw [cy 58 (by omega), cy 14 (by omega)]; exact m58
    · rw [cy 59 (by omega), cy 15 (by omega)]; exact m59
    · rw [cy 64 (by omega), cy 16 (by omega)]; exact m64
    · rw [cy 65 (by omega), cy 17 (by omega)]; exact m65
    · rw [cy 66 (by omega), cy 18 (by omega)]; exact m66
    · rw [cy 67 (by omega), cy 19 (by omega)]; exact m67
    · rw [cy 68 (by omega), cy 20 (by omega)]; exact m68
    · rw [cy 69 (by omega), cy 21 (by omega)]; exact m69
    · rw [cy 70 (by omega), cy 22 (by omega)]; exact m70
theorem fin_rate {ng nr ns n M : Nat} {V : wV} {I : wI} {J J2 : wJ} (hc : cW ng nr ns n M V I) (hz : z28 I) (hmV : mV V) (hmI : mI I) (hmF : mG ng n I) (hmJ : mJ J) {p1 p2 : Int32} {k : Nat} (hk : k < 3) (h1' : ∃ a, a ≤ 100 ∧ p1 = nI a) (h2' : ∃ a, a ≤ 300 ∧ p2 = nI a) (hJ : js J J2) : Inv (upd V 7 (nI 0)) (sI (sI (sI (sI I 12 k p1) 13 k p2) 56 k p1) 57 k p2) J2 := by
  obtain ⟨⟨a1, a2, a3, a4, a5, a6, a7⟩, h1, h2, h3, h4, h5, h6, h7, h8⟩ := hc
  obtain ⟨b0, b1, b2, b3, b4, b5⟩ := hmV
  obtain ⟨m51, m52, m53, m54, m56, m57, m58, m59, m64, m65, m66, m67, m68, m69, m70⟩ := id hmI
  have ex : ∀ c, c < 12 ∨ (13 < c ∧ c < 56) ∨ 57 < c → (sI (sI (sI (sI I 12 k p1) 13 k p2) 56 k p1) 57 k p2) c = I c := fun c hc => by
    show uI (uI (uI (uI I 12 _) 13 _) 56 _) 57 _ c = I c
    rw [uI_n (by omega), uI_n (by omega), uI_n (by omega), uI_n (by omega)]
  refine ⟨ng, nr, ns, n, M, ⟨⟨by simp [upd, a1], by simp [upd, a2], by simp [upd, a3], by simp [upd, a4], by simp [upd, a5], a6, a7⟩, dK_x h1 (fun c hc => ex c (by omega)), ?_, ⟨fun r hr => by rw [ex 10 (by omega)]; exact h3.1 r hr, fun q hq => ?_⟩, wS_x h4 rfl rfl, h5, h6, h7, h8⟩, hz, ⟨by simp [upd, b0], by simp [upd, b1], by simp [upd, b2], by simp [upd, b3], by simp [upd, b4], by simp [upd, b5]⟩, ⟨m51, m52, m53, m54, (congrArg (fun f => upd f k p1) m56), (congrArg (fun f => upd f k p2) m57), m58, m59, m64, m65, m66, m67, m68, m69, m70⟩, mG_x hmF (fun c hc => ex c (by omega)), mJ_s hmJ hJ⟩
  · obtain ⟨w1, w2, w3, w4, w5, w6, w7⟩ := h2
    exact ⟨w1, w2, w3, w4, w5, w6, w7⟩
  · show (∃ a, a ≤ 100 ∧ upd (I 12) k p1 q = nI a) ∧ ∃ a, a ≤ 300 ∧ upd (I 13) k p2 q = nI a
    by_cases z : q = k
    · rw [z, pk_us, pk_us]; exact ⟨h1', h2'⟩
    · rw [pk_un z, pk_un z]; exact h3.2 q hq
theorem fin_most {ng nr ns n M : Nat} {V : wV} {I : wI} {J J2 : wJ} (hc : cW ng nr ns n M V I) (hz : z28 I) (hmV : mV V) (hmI : mI I) (hmF : mG ng n I) (hmJ : mJ J) {p0 : Int32} {k : Nat} (hk : k ≤ 100000) (ek : p0 = nI k) (hJ : js J J2) : Inv (upd (upd (upd V 3 p0) 7 (nI 0)) 11 p0) I J2 := by
  obtain ⟨⟨a1, a2, a3, a4, a5, a6, a7⟩, h1, h2, h3, h4, h5, h6, h7, h8⟩ := hc
  obtain ⟨b0, b1, b2, b3, b4, b5⟩ := hmV
  obtain ⟨m51, m52, m53, m54, m56, m57, m58, m59, m64, m65, m66, m67, m68, m69, m70⟩ := id hmI
  exact ⟨ng, nr, ns, n, k, ⟨⟨by simp [upd, a1], by simp [upd, a2], by simp [upd, ek], by simp [upd, a4], by simp [upd, a5], a6, hk⟩, h1, h2, h3, h4, h5, h6, h7, h8⟩, hz, ⟨by simp [upd, b0], by simp [upd, b1], by simp [upd, b2], by simp [upd, b3], by simp [upd, b4], by simp [upd, b5]⟩, hmI, hmF, mJ_s hmJ hJ⟩
theorem fin_plate {ng nr ns n M : Nat} {V : wV} {I : wI} {J J2 : wJ} (hc : cW ng nr ns n M V I) (hz : z28 I) (hmV : mV V) (hmI : mI I) (hmF : mG ng n I) (hmJ : mJ J) {p1 p2 : Int32} {p : Nat} (hp : p < 10) (h1' : vp_in p1 3) (h2' : p2 = -1 ∨ vp_in p2 6) (hJ : js J J2) : Inv (upd V 7 (nI 0)) (sI (sI (sI (sI I 14 p p1) 15 p p2) 58 p p1) 59 p p2) J2 := by
  obtain ⟨⟨a1, a2, a3, a4, a5, a6, a7⟩, h1, h2, h3, h4, h5, h6, h7, h8⟩ := hc
  obtain ⟨b0, b1, b2, b3, b4, b5⟩ := hmV
  obtain ⟨m51, m52, m53, m54, m56, m57, m58, m59, m64, m65, m66, m67, m68, m69, m70⟩ := id hmI
  have ex : ∀ c, c < 14 ∨ (15 < c ∧ c < 58) ∨ 59 < c → (sI (sI (sI (sI I 14 p p1) 15 p p2) 58 p p1) 59 p p2) c = I c := fun c hc => by
    show uI (uI (uI (uI I 14 _) 15 _) 58 _) 59 _ c = I c
    rw [uI_n (by omega), uI_n (by omega), uI_n (by omega), uI_n (by omega)]
  refine ⟨ng, nr, ns, n, M, ⟨⟨by simp [upd, a1], by simp [upd, a2], by simp [upd, a3], by simp [upd, a4], by simp [upd, a5], a6, a7⟩, dK_x h1 (fun c hc => ex c (by omega)), ?_, h3, wS_x h4 rfl rfl, h5, fun q hq => ?_, h7, h8⟩, hz, ⟨by simp [upd, b0], by simp [upd, b1], by simp [upd, b2], by simp [upd, b3], by simp [upd, b4], by simp [upd, b5]⟩, ⟨m51, m52, m53, m54, m56, m57, (congrArg (fun f => upd f p p1) m58), (congrArg (fun f => upd f p p2) m59), m64, m65, m66, m67, m68, m69, m70⟩, mG_x hmF (fun c hc => ex c (by omega)), mJ_s hmJ hJ⟩
  · obtain ⟨w1, w2, w3, w4, w5, w6, w7⟩ := h2
    refine ⟨w1, w2, w3, w4, w5, w6, fun q hq => ?_⟩
    show vp_in (upd (I 14) p p1 q) 3
    by_cases z : q = p
    · rw [z, pk_us]; exact h1'
    · rw [pk_un z]; exact w7 q hq
  · show upd (I 15) p p2 q = -1 ∨ vp_in (upd (I 15) p p2 q) 6
    by_cases z : q = p
    · rw [z, pk_us]; exact h2'
    · rw [pk_un z]; exact h6 q hq
theorem fin_top {ng nr ns n M : Nat} {V : wV} {I : wI} {J J2 : wJ} (hc : cW ng nr ns n M V I) (hz : z28 I) (hmV : mV V) (hmI : mI I) (hmF : mG ng n I) (hmJ : mJ J) {J1 : wJ} {h : Nat} {x : Int64} (hJ1 : ∀ a, a < 77 → J1 a = sJ J 29 h (J 29 h + x) a) (hJ2 : ∀ a, a < 77 → J2 a = sJ J1 62 h (J1 62 h + x) a) : Inv (upd V 7 (nI 0)) I J2 := by
  obtain ⟨⟨j1, j2, j3⟩, j4⟩ := hmJ
  refine ⟨ng, nr, ns, n, M, cW_x hc (vs_7 _ _) (fun _ _ => rfl), hz, mV_x hmV (vs_7 _ _), hmI, hmF, ⟨?_, ?_, ?_⟩, fun o ho => ?_⟩
  · rw [hJ2 60 (by omega), hJ2 31 (by omega)]
    exact (hJ1 60 (by omega)).trans (j1.trans (hJ1 31 (by omega)).symm)
  · rw [hJ2 61 (by omega), hJ2 30 (by omega)]
    exact (hJ1 61 (by omega)).trans (j2.trans (hJ1 30 (by omega)).symm)
  · rw [hJ2 62 (by omega), hJ2 29 (by omega)]
    show vp_updL (J1 62) h (J1 62 h + x) = J1 29
    rw [hJ1 62 (by omega), hJ1 29 (by omega)]
    show vp_updL (J 62) h (J 62 h + x) = vp_updL (J 29) h (J 29 h + x)
    rw [j3]
  · rw [hJ2 63 (by omega), hJ2 32 (by omega)]
    show J1 63 o = J1 32 o
    rw [hJ1 63 (by omega), hJ1 32 (by omega)]
    exact j4 o ho
theorem fin_exempt {ng nr ns n M : Nat} {V : wV} {I : wI} {J J2 : wJ} (hc : cW ng nr ns n M V I) (hz : z28 I) (hmV : mV V) (hmI : mI I) (hmF : mG ng n I) (hmJ : mJ J) {p0 p1 p2 : Int32} (hn : ns < 20) (hJ : js J J2) : Inv (upd (upd (upd V 4 (nI (ns + 1))) 7 (nI 0)) 12 (nI (ns + 1))) (sI (sI (sI (uI (uI (uI I 16 (upd (I 16) ns p0)) 17 (upd (I 17) ns p1)) 18 (upd (I 18) ns p2)) 64 ns p0) 65 ns p1) 66 ns p2) J2 := by
  obtain ⟨⟨a1, a2, a3, a4, a5, a6, a7⟩, h1, h2, h3, h4, h5, h6, h7, h8⟩ := hc
  obtain ⟨b0, b1, b2, b3, b4, b5⟩ := hmV
  obtain ⟨m51, m52, m53, m54, m56, m57, m58, m59, m64, m65, m66, m67, m68, m69, m70⟩ := id hmI
  have ex : ∀ c, c < 16 ∨ (18 < c ∧ c < 64) ∨ 66 < c → (sI (sI (sI (uI (uI (uI I 16 (upd (I 16) ns p0)) 17 (upd (I 17) ns p1)) 18 (upd (I 18) ns p2)) 64 ns p0) 65 ns p1) 66 ns p2) c = I c := fun c hc => by
    show uI (uI (uI (uI (uI (uI I 16 _) 17 _) 18 _) 64 _) 65 _) 66 _ c = I c
    rw [uI_n (by omega), uI_n (by omega), uI_n (by omega), uI_n (by omega), uI_n (by omega), uI_n (by omega)]
  refine ⟨ng, nr, ns + 1, n, M, ⟨⟨by simp [upd, a1], by simp [upd, a2], by simp [upd, a3], by simp [upd], by simp [upd, a5], a6, a7⟩, dK_x h1 (fun c hc => ex c (by omega)), ?_, h3, wS_x h4 rfl rfl, h5, h6, h7, h8⟩, hz, ⟨by simp [upd, b0], by simp [upd, b1], by simp [upd, b2], by simp [upd, b3], by simp [upd, b4], by simp [upd, b5]⟩, ⟨m51, m52, m53, m54, m56, m57, m58, m59, (congrArg (fun f => upd f ns p0) m64), (congrArg (fun f => upd f ns p1) m65), (congrArg (fun f => upd f ns p2) m66), m67, m68, m69, m70⟩, mG_x hmF (fun c hc => ex c (by omega)), mJ_s hmJ hJ⟩
  obtain ⟨w1, w2, w3, w4, w5, w6, w7⟩ := h2
  exact ⟨w1, w2, by omega, w4, w5, w6, w7⟩
theorem fin_read {ng nr ns n M : Nat} {V : wV} {I : wI} {J J2 : wJ} (hc : cW ng nr ns n M V I) (hz : z28 I) (hmV : mV V) (hmI : mI I) (hmF : mG ng n I) (hmJ : mJ J) {p0 p1 p2 : Int32} {q : Nat} (hn : n < 100) (hg0 : 0 < ng) (h1' : vp_in p0 12) (h2' : vp_in p1 10) (hq : q ≤ n) (hq1 : q = 0 ∨ I 21 (I 23 (q - 1)).toNatClampNeg ≤ p2) (hq2 : ∀ z, q ≤ z → z < n → p2 < I 21 (I 23 z).toNatClampNeg) (hJ : js J J2) : Inv (upd (upd (upd V 5 (nI (n + 1))) 7 (nI 0)) 13 (nI (n + 1))) (sI (sI (sI (sI (uI (rdI I n p0 p1 p2) 23 (upd (shf (I 23) n q) q (nI n))) 67 n p0) 68 n p1) 69 n p2) 70 n (nI 0)) J2 := by
  obtain ⟨⟨a1, a2, a3, a4, a5, a6, a7⟩, h1, h2, h3, h4, h5, h6, h7, h8⟩ := hc
  obtain ⟨b0, b1, b2, b3, b4, b5⟩ := hmV
  obtain ⟨m51, m52, m53, m54, m56, m57, m58, m59, m64, m65, m66, m67, m68, m69, m70⟩ := id hmI
  have ex : ∀ c, c < 19 ∨ (23 < c ∧ c < 67) ∨ 70 < c → (sI (sI (sI (sI (uI (rdI I n p0 p1 p2) 23 (upd (shf (I 23) n q) q (nI n))) 67 n p0) 68 n p1) 69 n p2) 70 n (nI 0)) c = I c := fun c hc => by
    show uI (uI (uI (uI (uI (uI (uI (uI I 19 _) 20 _) 21 _) 23 _) 67 _) 68 _) 69 _) 70 _ c = I c
    rw [uI_n (by omega), uI_n (by omega), uI_n (by omega), uI_n (by omega), uI_n (by omega), uI_n (by omega), uI_n (by omega), uI_n (by omega)]
  have hS := wS_ins (I9 := (sI (sI (sI (sI (uI (rdI I n p0 p1 p2) 23 (upd (shf (I 23) n q) q (nI n))) 67 n p0) 68 n p1) 69 n p2) 70 n (nI 0))) h4 (by omega) hq hq1 hq2 rfl rfl
  refine ⟨ng, nr, ns, n + 1, M, ⟨⟨by simp [upd, a1], by simp [upd, a2], by simp [upd, a3], by simp [upd, a4], by simp [upd], a6, a7⟩, dK_x h1 (fun c hc => ex c (by omega)), ?_, h3, hS, h5, h6, h7, fun r hr => h8 r (by omega)⟩, hz, ⟨by simp [upd, b0], by simp [upd, b1], by simp [upd, b2], by simp [upd, b3], by simp [upd, b4], by simp [upd, b5]⟩, ⟨m51, m52, m53, m54, m56, m57, m58, m59, m64, m65, m66, (congrArg (fun f => upd f n p0) m67), (congrArg (fun f => upd f n p1) m68), (congrArg (fun f => upd f n p2) m69), ?_⟩, ⟨fun _ => hg0, fun z => mF_x (hmF.2 z) (fun c hc => ex c (by omega))⟩, mJ_s hmJ hJ⟩
  · obtain ⟨w1, w2, w3, w4, w5, w6, w7⟩ := h2
    refine ⟨w1, w2, w3, by omega, fun s hs => ⟨_, (hS.1 s hs).1, (hS.1 s hs).2⟩, fun r hr => ?_, w7⟩
    show vp_in (upd (I 19) n p0 r) 12 ∧ vp_in (upd (I 20) n p1 r) 10
    by_cases z : r = n
    · rw [z, pk_us, pk_us]; exact ⟨h1', h2'⟩
    · rw [pk_un z, pk_un z]; exact w6 r (by omega)
  · show upd (I 70) n (nI 0) = I 22
    rw [m70]
    exact upd_self (h8 n (Nat.le_refl _))
theorem fin_strike {ng nr ns n M : Nat} {V : wV} {I : wI} {J J2 : wJ} (hc : cW ng nr ns n M V I) (hz : z28 I) (hmV : mV V) (hmI : mI I) (hmF : mG ng n I) (hmJ : mJ J) {q : Nat} (hq : q < n) (hJ : js J J2) : Inv (upd V 7 (nI 0)) (sI (sI I 22 q (nI 1)) 70 q (nI 1)) J2 := by
  obtain ⟨⟨a1, a2, a3, a4, a5, a6, a7⟩, h1, h2, h3, h4, h5, h6, h7, h8⟩ := hc
  obtain ⟨b0, b1, b2, b3, b4, b5⟩ := hmV
  obtain ⟨m51, m52, m53, m54, m56, m57, m58, m59, m64, m65, m66, m67, m68, m69, m70⟩ := id hmI
  have ex : ∀ c, c < 22 ∨ (22 < c ∧ c < 70) ∨ 70 < c → (sI (sI I 22 q (nI 1)) 70 q (nI 1)) c = I c := fun c hc => by
    show uI (uI I 22 _) 70 _ c = I c
    rw [uI_n (by omega), uI_n (by omega)]
  refine ⟨ng, nr, ns, n, M, ⟨⟨by simp [upd, a1], by simp [upd, a2], by simp [upd, a3], by simp [upd, a4], by simp [upd, a5], a6, a7⟩, dK_x h1 (fun c hc => ex c (by omega)), ?_, h3, wS_x h4 rfl rfl, h5, h6, fun r => ?_, fun r hr => ?_⟩, hz, ⟨by simp [upd, b0], by simp [upd, b1], by simp [upd, b2], by simp [upd, b3], by simp [upd, b4], by simp [upd, b5]⟩, ⟨m51, m52, m53, m54, m56, m57, m58, m59, m64, m65, m66, m67, m68, m69, (congrArg (fun f => upd f q (nI 1)) m70)⟩, mG_x hmF (fun c hc => ex c (by omega)), mJ_s hmJ hJ⟩
  · obtain ⟨w1, w2, w3, w4, w5, w6, w7⟩ := h2
    exact ⟨w1, w2, w3, w4, w5, w6, w7⟩
  · show upd (I 22) q (nI 1) r = 0 ∨ upd (I 22) q (nI 1) r = 1
    by_cases z : r = q
    · rw [z, pk_us]; exact Or.inr rfl
    · rw [pk_un z]; exact h7 r
  · show upd (I 22) q (nI 1) r = 0
    rw [pk_un (by omega)]; exact h8 r hr
theorem fin_pass {ng nr ns n M : Nat} {V : wV} {I : wI} {J J2 : wJ} (hc : cW ng nr ns n M V I) (hz : z28 I) (hmV : mV V) (hmI : mI I) (hmF : mG ng n I) (hmJ : mJ J) {p0 : Int32} (hJ : js J J2) : Inv (upd (upd (upd V 0 (V 0 + p0)) 7 (nI 0)) 8 (V 8 + p0)) I J2 := by
  obtain ⟨⟨a1, a2, a3, a4, a5, a6, a7⟩, h1, h2, h3, h4, h5, h6, h7, h8⟩ := hc
  obtain ⟨b0, b1, b2, b3, b4, b5⟩ := hmV
  obtain ⟨m51, m52, m53, m54, m56, m57, m58, m59, m64, m65, m66, m67, m68, m69, m70⟩ := id hmI
  exact ⟨ng, nr, ns, n, M, ⟨⟨by simp [upd, a1], by simp [upd, a2], by simp [upd, a3], by simp [upd, a4], by simp [upd, a5], a6, a7⟩, h1, h2, h3, h4, h5, h6, h7, h8⟩, hz, ⟨by simp [upd, b0], by simp [upd, b1], by simp [upd, b2], by simp [upd, b3], by simp [upd, b4], by simp [upd, b5]⟩, hmI, hmF, mJ_s hmJ hJ⟩
theorem bl_o {nr ns n : Nat} {V : wV} {I : wI} {J : wJ} {a : Nat} (ha : a < 29 ∨ 32 < a) : ∀ p, (blS nr ns n V I J p).2.2.2 a = J a
  | 0 => by
    show uJ (uJ (uJ (uJ J 32 _) 32 _) 32 _) 32 _ a = J a
    rw [uJ_n (by omega), uJ_n (by omega), uJ_n (by omega), uJ_n (by omega)]
  | p + 1 => by
    refine (show (blS nr ns n V I J (p + 1)).2.2.2 a = blJ nr ns n V p (blS nr ns n V I J p) 4 a from rfl).trans ((blJ_n (by omega) 4).trans ?_)
    unfold chJ
    split
    · show uJ (uJ _ 31 _) 30 _ a = J a
      rw [uJ_n (by omega), uJ_n (by omega)]; exact bl_o ha p
    · show uJ (uJ _ 31 _) 29 _ a = J a
      rw [uJ_n (by omega), uJ_n (by omega)]; exact bl_o ha p
theorem fin_bill {ng nr ns n M : Nat} {V : wV} {I : wI} {J J2 : wJ} (hc : cW ng nr ns n M V I) (hz : z28 I) (hmV : mV V) (hmI : mI I) (hmF : mG ng n I) (hmJ : mJ J) {V2 : wV} {I2 : wI} (hV : fv (blS nr ns n V I J 10).2.1 V2) (hI : gK (blS nr ns n V I J 10).2.2.1 I2) (hE : jE J2 (blS nr ns n V I J 10).2.2.2) (h63 : ∀ o, o < 4 → J2 63 o = (blS nr ns n V I J 10).2.2.2 32 o) (hO : jO (blS nr ns n V I J 10).2.2.2 J2) : Inv V2 I2 J2 := by
  have hb := blS_ok (V := V) (J := J) hc.2.2.1 hz 10
  refine ⟨ng, nr, ns, n, M, cW_x hc (vs_tr (vs_c hb) (vs_f hV)) (eqy_tr (eqy_x hb.2.1) (es_y (es_k hI))), z28_es hb.2.2.1 (hI 28 (by omega)), mV_x hmV (vs_tr (vs_c hb) (vs_f hV)), mI_s hmI (es_tr (es_x hb.2.1) (es_k hI)), mG_s hmF (es_tr (es_x hb.2.1) (es_k hI)), ⟨?_, ?_, ?_⟩, fun o ho => ?_⟩
  · rw [hO 31 (by omega)]; exact hE.1
  · rw [hO 30 (by omega)]; exact hE.2.1
  · rw [hO 29 (by omega)]; exact hE.2.2
  · rw [hO 32 (by omega)]; exact h63 o ho
