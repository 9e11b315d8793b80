/-- what a call of the law leaves: the code of what was thrown, or 0 and the answer in the law's own cell -/
def wQi (P : wPo) (X : Nat → wV → wI → wJ → Prop) : wPo := fun r V9 I9 J9 => ∃ t : Nat, r = some (.int (nI t)) ∧ ((t = 0 ∧ ∃ (x : Int32) (J8 : wJ), P (some (.int x)) V9 I9 J8 ∧ J9 = sJ J8 80 0 x.toInt64) ∨ (0 < t ∧ t < 4 ∧ X t V9 I9 J9))
def wQl (P : wPo) (X : Nat → wV → wI → wJ → Prop) : wPo := fun r V9 I9 J9 => ∃ t : Nat, r = some (.int (nI t)) ∧ ((t = 0 ∧ ∃ (x : Int64) (J8 : wJ), P (some (.long x)) V9 I9 J8 ∧ J9 = sJ J8 80 0 x) ∨ (0 < t ∧ t < 4 ∧ X t V9 I9 J9))
def wQv (P : wPo) (X : Nat → wV → wI → wJ → Prop) : wPo := fun r V9 I9 J9 => ∃ t : Nat, r = some (.int (nI t)) ∧ ((t = 0 ∧ P none V9 I9 J9) ∨ (0 < t ∧ t < 4 ∧ X t V9 I9 J9))
def wXc (V : wV) (I : wI) (J : wJ) (tc : Nat) : Nat → wV → wI → wJ → Prop := fun t V9 I9 J9 => V9 = V ∧ I9 = I ∧ J9 = J ∧ tc = t
def wXs (V : wV) (I : wI) (J : wJ) (tc : Nat) : Nat → wV → wI → wJ → Prop := fun t V9 I9 J9 => scr V I J V9 I9 J9 ∧ tc = t

set_option maxRecDepth 100000 in
theorem m_L_gate {l : Launch} {G : wG} (hl : l.stackTraces = false) (hG : wD G) (V : wV) (I : wI) (J : wJ) (ng : Nat) (v1 : V 1 = nI ng) (hg : ng ≤ 12) : vx_Met l yL_gate (Cond.codeWith yL_gate cL_gate 3 (some .int) [(0, 8, 11, 13)] :: TT) { frames := 8, cells := 6, slots := 36, locals := 132 } (cP G [.ref (G.2.1 0), .ref (G.2.1 80)] V I J) (cQ G (wQi (fun r V9 I9 J9 => tcGate ng = 0 ∧ r = some (.int (nI ng)) ∧ V9 = upd V 1 (nI (ng + 1)) ∧ I9 = I ∧ J9 = J ∧ ng < 12) (wXc V I J (tcGate ng)))) (cX G noX) 6 36 (wA G) := by
  refine ctrX_of (rm := { frames := 8, cells := 6, slots := 36, locals := 132 }) hl hG (by decide) (Nat.le_of_ble_eq_true rfl) [(0, .ref (G.2.1 0)), (1, .ref (G.2.1 80))] rfl ?_
  intro K hC hKl hRm hr hT
  subst hKl
  have hC : Cx K G RL cL_gate 3 := hC
  refine g_aload_n hC dL_gate_0 rfl 1 rfl ?_
  refine g_iconst (v := nI 0) hC dL_gate_1 (by decide) ?_
  refine g_aload_n hC dL_gate_2 rfl 0 rfl ?_
  refine g_callV hC [] 0 (m_X6_gate hl hG V I J ng v1 hg) rfl (by decide) rfl rfl rfl tw_370 tw_371 tw_372 tw_31 tw_373 pd_X6_gate (by rw [hRm]; exact ⟨Nat.le_of_ble_eq_true rfl, Nat.le_of_ble_eq_true rfl⟩) (Nat.le_of_ble_eq_true rfl) (by rw [hRm]; exact ⟨Nat.le_of_ble_eq_true rfl, Nat.le_of_ble_eq_true rfl⟩) dL_gate_3 (fun E9 V9 I9 J9 hx9 => ?_) (fun r9 V9 I9 J9 hp9 => ?_)
  · obtain ⟨hV9, hI9, hJ9, k, hk, htc⟩ := hx9
    match k, hk with
    | 0, hk =>
      cases hk
      refine g_catch hC [] ⟨0, 8, 11, 13⟩ [] hT (List.mem_of_getElem? (i := 0) rfl) (fun z hz => absurd hz List.not_mem_nil) (by decide) (by decide) tw_369 (fun q9 => ?_)
      refine g_astore_n hC [(2, .ref q9), (0, .ref (G.2.1 0)), (1, .ref (G.2.1 80))] dL_gate_11 rfl (by decide) rfl ?_
      refine g_iconst (v := nI 1) hC dL_gate_12 (by decide) ?_
      exact g_iret hC hr dL_gate_13 (Nat.le_of_ble_eq_true rfl) (Nat.le_of_ble_eq_true rfl) ⟨1, rfl, Or.inr ⟨by decide, by decide, ⟨hV9, hI9, hJ9, htc⟩⟩⟩
    | k + 1, hk => cases hk
  · obtain ⟨x, hr9⟩ : ∃ x : Int32, r9 = some (.int x) := by
      exact ⟨_, hp9.2.1⟩
    subst hr9
    refine g_at rfl rfl (st2 := [.int x, .int (nI 0), .ref (G.2.1 80)]) rfl ?_
    refine g_i2l hC dL_gate_6 ?_
    refine n_last hC 80 aa_80 0 (show 0 < 1 by omega) dL_gate_7 ?_
    refine g_goto hC 14 dL_gate_8 (by decide) ?_
    refine g_iconst (v := nI 0) hC dL_gate_14 (by decide) ?_
    exact g_iret hC hr dL_gate_15 (Nat.le_of_ble_eq_true rfl) (Nat.le_of_ble_eq_true rfl) ⟨0, rfl, Or.inl ⟨rfl, x, J9, hp9, rfl⟩⟩

set_option maxRecDepth 100000 in
theorem m_L_road {l : Launch} {G : wG} (hl : l.stackTraces = false) (hG : wD G) (V : wV) (I : wI) (J : wJ) (ng nr : Nat) (p0 p1 p2 p3 : Int32) (v1 : V 1 = nI ng) (v2 : V 2 = nI nr) (hg : ng ≤ 12) (hr0 : nr ≤ 24) : vx_Met l yL_road (Cond.codeWith yL_road cL_road 7 (some .int) [(0, 14, 17, 19), (0, 14, 21, 21), (0, 14, 25, 13)] :: TT) { frames := 8, cells := 6, slots := 36, locals := 136 } (cP G [.ref (G.2.1 0), .int p0, .int p1, .int p2, .int p3, .ref (G.2.1 80)] V I J) (cQ G (wQi (fun r V9 I9 J9 => tcRoad ng nr p0 p1 p2 p3 = 0 ∧ r = some (.int (nI nr)) ∧ V9 = upd V 2 (nI (nr + 1)) ∧ J9 = J ∧ nr < 24 ∧ ∃ a b, a < ng ∧ b < ng ∧ p0 = nI a ∧ p1 = nI b ∧ I9 = sdF (uI (uI (uI (uI I 8 (upd (I 8) nr (nI a))) 9 (upd (I 9) nr (nI b))) 10 (upd (I 10) nr p2)) 11 (upd (I 11) nr p3)) a b p2 ng ng) (wXc V I J (tcRoad ng nr p0 p1 p2 p3)))) (cX G noX) 6 36 (wA G) := by
  refine ctrX_of (rm := { frames := 8, cells := 6, slots := 36, locals := 136 }) hl hG (by decide) (Nat.le_of_ble_eq_true rfl) [(0, .ref (G.2.1 0)), (1, .int p0), (2, .int p1), (3, .int p2), (4, .int p3), (5, .ref (G.2.1 80))] rfl ?_
  intro K hC hKl hRm hr hT
  subst hKl
  have hC : Cx K G RL cL_road 7 := hC
  refine g_aload hC dL_road_0 5 rfl ?_
  refine g_iconst (v := nI 0) hC dL_road_2 (by decide) ?_
  refine g_aload_n hC dL_road_3 rfl 0 rfl ?_
  refine g_iload_n hC dL_road_4 rfl 1 rfl ?_
  refine g_iload_n hC dL_road_5 rfl 2 rfl ?_
  refine g_iload_n hC dL_road_6 rfl 3 rfl ?_
  refine g_iload hC dL_road_7 4 rfl ?_
  refine g_callV hC [.int p0, .int p1, .int p2, .int p3] 0 (m_X6_road hl hG V I J ng nr p0 p1 p2 p3 v1 v2 hg hr0) rfl (by decide) rfl rfl rfl tw_451 tw_452 tw_453 tw_31 tw_454 pd_X6_road (by rw [hRm]; exact ⟨Nat.le_of_ble_eq_true rfl, Nat.le_of_ble_eq_true rfl⟩) (Nat.le_of_ble_eq_true rfl) (by rw [hRm]; exact ⟨Nat.le_of_ble_eq_true rfl, Nat.le_of_ble_eq_true rfl⟩) dL_road_9 (fun E9 V9 I9 J9 hx9 => ?_) (fun r9 V9 I9 J9 hp9 => ?_)
  · obtain ⟨hV9, hI9, hJ9, k, hk, htc⟩ := hx9
    match k, hk with
    | 0, hk =>
      cases hk
      refine g_catch hC [] ⟨0, 14, 17, 19⟩ [⟨0, 14, 21, 21⟩, ⟨0, 14, 25, 13⟩] hT (List.mem_of_getElem? (i := 2) rfl) (fun z hz => absurd hz List.not_mem_nil) (by decide) (by decide) tw_449 (fun q9 => ?_)
      refine g_astore hC [(6, .ref q9), (0, .ref (G.2.1 0)), (1, .int p0), (2, .int p1), (3, .int p2), (4, .int p3), (5, .ref (G.2.1 80))] dL_road_17 (by decide) rfl ?_
      refine g_iconst (v := nI 1) hC dL_road_19 (by decide) ?_
      exact g_iret hC hr dL_road_20 (Nat.le_of_ble_eq_true rfl) (Nat.le_of_ble_eq_true rfl) ⟨1, rfl, Or.inr ⟨by decide, by decide, ⟨hV9, hI9, hJ9, htc⟩⟩⟩
    | 1, hk =>
      cases hk
      refine g_catch hC [⟨0, 14, 17, 19⟩] ⟨0, 14, 21, 21⟩ [⟨0, 14, 25, 13⟩] hT (List.mem_of_getElem? (i := 1) rfl) (List.forall_mem_cons.mpr ⟨⟨by decide, xIOB, tw_449, (List.mem_of_getElem? (i := 2) rfl), by decide⟩, (fun _ h9 => absurd h9 List.not_mem_nil)⟩) (by decide) (by decide) tw_450 (fun q9 => ?_)
      refine g_astore hC [(6, .ref q9), (0, .ref (G.2.1 0)), (1, .int p0), (2, .int p1), (3, .int p2), (4, .int p3), (5, .ref (G.2.1 80))] dL_road_21 (by decide) rfl ?_
      refine g_iconst (v := nI 2) hC dL_road_23 (by decide) ?_
      exact g_iret hC hr dL_road_24 (Nat.le_of_ble_eq_true rfl) (Nat.le_of_ble_eq_true rfl) ⟨2, rfl, Or.inr ⟨by decide, by decide, ⟨hV9, hI9, hJ9, htc⟩⟩⟩
    | 2, hk =>
      cases hk
      refine g_catch hC [⟨0, 14, 17, 19⟩, ⟨0, 14, 21, 21⟩] ⟨0, 14, 25, 13⟩ [] hT (List.mem_of_getElem? (i := 0) rfl) (List.forall_mem_cons.mpr ⟨⟨by decide, xIOB, tw_449, (List.mem_of_getElem? (i := 2) rfl), by decide⟩, (List.forall_mem_cons.mpr ⟨⟨by decide, xIAE, tw_450, (List.mem_of_getElem? (i := 1) rfl), by decide⟩, (fun _ h9 => absurd h9 List.not_mem_nil)⟩)⟩) (by decide) (by decide) tw_369 (fun q9 => ?_)
      refine g_astore hC [(6, .ref q9), (0, .ref (G.2.1 0)), (1, .int p0), (2, .int p1), (3, .int p2), (4, .int p3), (5, .ref (G.2.1 80))] dL_road_25 (by decide) rfl ?_
      refine g_iconst (v := nI 3) hC dL_road_27 (by decide) ?_
      exact g_iret hC hr dL_road_28 (Nat.le_of_ble_eq_true rfl) (Nat.le_of_ble_eq_true rfl) ⟨3, rfl, Or.inr ⟨by decide, by decide, ⟨hV9, hI9, hJ9, htc⟩⟩⟩
    | k + 3, hk => cases hk
  · obtain ⟨x, hr9⟩ : ∃ x : Int32, r9 = some (.int x) := by
      exact ⟨_, hp9.2.1⟩
    subst hr9
    refine g_at rfl rfl (st2 := [.int x, .int (nI 0), .ref (G.2.1 80)]) rfl ?_
    refine g_i2l hC dL_road_12 ?_
    refine n_last hC 80 aa_80 0 (show 0 < 1 by omega) dL_road_13 ?_
    refine g_goto hC 29 dL_road_14 (by decide) ?_
    refine g_iconst (v := nI 0) hC dL_road_29 (by decide) ?_
    exact g_iret hC hr dL_road_30 (Nat.le_of_ble_eq_true rfl) (Nat.le_of_ble_eq_true rfl) ⟨0, rfl, Or.inl ⟨rfl, x, J9, hp9, rfl⟩⟩

set_option maxRecDepth 100000 in
theorem m_L_rate {l : Launch} {G : wG} (hl : l.stackTraces = false) (hG : wD G) (V : wV) (I : wI) (J : wJ) (p0 p1 p2 : Int32) : vx_Met l yL_rate (Cond.codeWith yL_rate cL_rate 5 (some .int) [(0, 7, 10, 21)] :: TT) { frames := 8, cells := 6, slots := 36, locals := 135 } (cP G [.ref (G.2.1 0), .int p0, .int p1, .int p2] V I J) (cQ G (wQv (fun r V9 I9 J9 => tcRate p0 p1 p2 = 0 ∧ r = none ∧ V9 = V ∧ J9 = J ∧ ∃ k, k < 3 ∧ p0 = nI k ∧ I9 = sI (sI I 12 k p1) 13 k p2) (wXc V I J (tcRate p0 p1 p2)))) (cX G noX) 6 36 (wA G) := by
  refine ctrX_of (rm := { frames := 8, cells := 6, slots := 36, locals := 135 }) hl hG (by decide) (Nat.le_of_ble_eq_true rfl) [(0, .ref (G.2.1 0)), (1, .int p0), (2, .int p1), (3, .int p2)] rfl ?_
  intro K hC hKl hRm hr hT
  subst hKl
  have hC : Cx K G RL cL_rate 5 := hC
  refine g_aload_n hC dL_rate_0 rfl 0 rfl ?_
  refine g_iload_n hC dL_rate_1 rfl 1 rfl ?_
  refine g_iload_n hC dL_rate_2 rfl 2 rfl ?_
  refine g_iload_n hC dL_rate_3 rfl 3 rfl ?_
  refine g_callV hC [.int p0, .int p1, .int p2] 0 (m_X6_rate hl hG V I J p0 p1 p2) rfl (by decide) rfl rfl rfl tw_508 tw_509 tw_510 tw_31 tw_511 pd_X6_rate (by rw [hRm]; exact ⟨Nat.le_of_ble_eq_true rfl, Nat.le_of_ble_eq_true rfl⟩) (Nat.le_of_ble_eq_true rfl) (by rw [hRm]; exact ⟨Nat.le_of_ble_eq_true rfl, Nat.le_of_ble_eq_true rfl⟩) dL_rate_4 (fun E9 V9 I9 J9 hx9 => ?_) (fun r9 V9 I9 J9 hp9 => ?_)
  · obtain ⟨hV9, hI9, hJ9, k, hk, htc⟩ := hx9
    match k, hk with
    | 0, hk =>
      cases hk
      refine g_catch hC [] ⟨0, 7, 10, 21⟩ [] hT (List.mem_of_getElem? (i := 1) rfl) (fun z hz => absurd hz List.not_mem_nil) (by decide) (by decide) tw_450 (fun q9 => ?_)
      refine g_astore hC [(4, .ref q9), (0, .ref (G.2.1 0)), (1, .int p0), (2, .int p1), (3, .int p2)] dL_rate_10 (by decide) rfl ?_
      refine g_iconst (v := nI 1) hC dL_rate_12 (by decide) ?_
      exact g_iret hC hr dL_rate_13 (Nat.le_of_ble_eq_true rfl) (Nat.le_of_ble_eq_true rfl) ⟨1, rfl, Or.inr ⟨by decide, by decide, ⟨hV9, hI9, hJ9, htc⟩⟩⟩
    | k + 1, hk => cases hk
  · have hr9 : r9 = none := hp9.2.1
    subst hr9
    refine g_at rfl rfl (st2 := []) rfl ?_
    refine g_goto hC 14 dL_rate_7 (by decide) ?_
    refine g_iconst (v := nI 0) hC dL_rate_14 (by decide) ?_
    exact g_iret hC hr dL_rate_15 (Nat.le_of_ble_eq_true rfl) (Nat.le_of_ble_eq_true rfl) ⟨0, rfl, Or.inl ⟨rfl, hp9⟩⟩

set_option maxRecDepth 100000 in
theorem m_L_most {l : Launch} {G : wG} (hl : l.stackTraces = false) (hG : wD G) (V : wV) (I : wI) (J : wJ) (p0 : Int32) : vx_Met l yL_most (Cond.codeWith yL_most cL_most 4 (some .int) [(0, 9, 12, 21)] :: TT) { frames := 8, cells := 6, slots := 36, locals := 134 } (cP G [.ref (G.2.1 0), .int p0, .ref (G.2.1 80)] V I J) (cQ G (wQi (fun r V9 I9 J9 => tcMost p0 = 0 ∧ r = some (.int (V 3)) ∧ V9 = upd V 3 p0 ∧ I9 = I ∧ J9 = J) (wXc V I J (tcMost p0)))) (cX G noX) 6 36 (wA G) := by
  refine ctrX_of (rm := { frames := 8, cells := 6, slots := 36, locals := 134 }) hl hG (by decide) (Nat.le_of_ble_eq_true rfl) [(0, .ref (G.2.1 0)), (1, .int p0), (2, .ref (G.2.1 80))] rfl ?_
  intro K hC hKl hRm hr hT
  subst hKl
  have hC : Cx K G RL cL_most 4 := hC
  refine g_aload_n hC dL_most_0 rfl 2 rfl ?_
  refine g_iconst (v := nI 0) hC dL_most_1 (by decide) ?_
  refine g_aload_n hC dL_most_2 rfl 0 rfl ?_
  refine g_iload_n hC dL_most_3 rfl 1 rfl ?_
  refine g_callV hC [.int p0] 0 (m_X6_most hl hG V I J p0) rfl (by decide) rfl rfl rfl tw_515 tw_516 tw_517 tw_31 tw_518 pd_X6_most (by rw [hRm]; exact ⟨Nat.le_of_ble_eq_true rfl, Nat.le_of_ble_eq_true rfl⟩) (Nat.le_of_ble_eq_true rfl) (by rw [hRm]; exact ⟨Nat.le_of_ble_eq_true rfl, Nat.le_of_ble_eq_true rfl⟩) dL_most_4 (fun E9 V9 I9 J9 hx9 => ?_) (fun r9 V9 I9 J9 hp9 => ?_)
  · obtain ⟨hV9, hI9, hJ9, k, hk, htc⟩ := hx9
    match k, hk with
    | 0, hk =>
      cases hk
      refine g_catch hC [] ⟨0, 9, 12, 21⟩ [] hT (List.mem_of_getElem? (i := 1) rfl) (fun z hz => absurd hz List.not_mem_nil) (by decide) (by decide) tw_450 (fun q9 => ?_)
      refine g_astore_n hC [(3, .ref q9), (0, .ref (G.2.1 0)), (1, .int p0), (2, .ref (G.2.1 80))] dL_most_12 rfl (by decide) rfl ?_
      refine g_iconst (v := nI 1) hC dL_most_13 (by decide) ?_
      exact g_iret hC hr dL_most_14 (Nat.le_of_ble_eq_true rfl) (Nat.le_of_ble_eq_true rfl) ⟨1, rfl, Or.inr ⟨by decide, by decide, ⟨hV9, hI9, hJ9, htc⟩⟩⟩
    | k + 1, hk => cases hk
  · obtain ⟨x, hr9⟩ : ∃ x : Int32, r9 = some (.int x) := by
      exact ⟨_, hp9.2.1⟩
    subst hr9
    refine g_at rfl rfl (st2 := [.int x, .int (nI 0), .ref (G.2.1 80)]) rfl ?_
    refine g_i2l hC dL_most_7 ?_
    refine n_last hC 80 aa_80 0 (show 0 < 1 by omega) dL_most_8 ?_
    refine g_goto hC 15 dL_most_9 (by decide) ?_
    refine g_iconst (v := nI 0) hC dL_most_15 (by decide) ?_
    exact g_iret hC hr dL_most_16 (Nat.le_of_ble_eq_true rfl) (Nat.le_of_ble_eq_true rfl) ⟨0, rfl, Or.inl ⟨rfl, x, J9, hp9, rfl⟩⟩

set_option maxRecDepth 100000 in
theorem m_L_plate {l : Launch} {G : wG} (hl : l.stackTraces = false) (hG : wD G) (V : wV) (I : wI) (J : wJ) (p0 p1 p2 : Int32) : vx_Met l yL_plate (Cond.codeWith yL_plate cL_plate 5 (some .int) [(0, 7, 10, 19), (0, 7, 14, 21)] :: TT) { frames := 8, cells := 6, slots := 36, locals := 135 } (cP G [.ref (G.2.1 0), .int p0, .int p1, .int p2] V I J) (cQ G (wQv (fun r V9 I9 J9 => tcPlate p0 p1 p2 = 0 ∧ r = none ∧ V9 = V ∧ J9 = J ∧ ∃ p, p < 10 ∧ p0 = nI p ∧ I9 = sI (sI I 14 p p1) 15 p p2) (wXc V I J (tcPlate p0 p1 p2)))) (cX G noX) 6 36 (wA G) := by
  refine ctrX_of (rm := { frames := 8, cells := 6, slots := 36, locals := 135 }) hl hG (by decide) (Nat.le_of_ble_eq_true rfl) [(0, .ref (G.2.1 0)), (1, .int p0), (2, .int p1), (3, .int p2)] rfl ?_
  intro K hC hKl hRm hr hT
  subst hKl
  have hC : Cx K G RL cL_plate 5 := hC
  refine g_aload_n hC dL_plate_0 rfl 0 rfl ?_
  refine g_iload_n hC dL_plate_1 rfl 1 rfl ?_
  refine g_iload_n hC dL_plate_2 rfl 2 rfl ?_
  refine g_iload_n hC dL_plate_3 rfl 3 rfl ?_
  refine g_callV hC [.int p0, .int p1, .int p2] 0 (m_X6_plate hl hG V I J p0 p1 p2) rfl (by decide) rfl rfl rfl tw_523 tw_524 tw_525 tw_31 tw_526 pd_X6_plate (by rw [hRm]; exact ⟨Nat.le_of_ble_eq_true rfl, Nat.le_of_ble_eq_true rfl⟩) (Nat.le_of_ble_eq_true rfl) (by rw [hRm]; exact ⟨Nat.le_of_ble_eq_true rfl, Nat.le_of_ble_eq_true rfl⟩) dL_plate_4 (fun E9 V9 I9 J9 hx9 => ?_) (fun r9 V9 I9 J9 hp9 => ?_)
  · obtain ⟨hV9, hI9, hJ9, k, hk, htc⟩ := hx9
    match k, hk with
    | 0, hk =>
      cases hk
      refine g_catch hC [] ⟨0, 7, 10, 19⟩ [⟨0, 7, 14, 21⟩] hT (List.mem_of_getElem? (i := 2) rfl) (fun z hz => absurd hz List.not_mem_nil) (by decide) (by decide) tw_449 (fun q9 => ?_)
      refine g_astore hC [(4, .ref q9), (0, .ref (G.2.1 0)), (1, .int p0), (2, .int p1), (3, .int p2)] dL_plate_10 (by decide) rfl ?_
      refine g_iconst (v := nI 1) hC dL_plate_12 (by decide) ?_
      exact g_iret hC hr dL_plate_13 (Nat.le_of_ble_eq_true rfl) (Nat.le_of_ble_eq_true rfl) ⟨1, rfl, Or.inr ⟨by decide, by decide, ⟨hV9, hI9, hJ9, htc⟩⟩⟩
    | 1, hk =>
      cases hk
      refine g_catch hC [⟨0, 7, 10, 19⟩] ⟨0, 7, 14, 21⟩ [] hT (List.mem_of_getElem? (i := 1) rfl) (List.forall_mem_cons.mpr ⟨⟨by decide, xIOB, tw_449, (List.mem_of_getElem? (i := 2) rfl), by decide⟩, (fun _ h9 => absurd h9 List.not_mem_nil)⟩) (by decide) (by decide) tw_450 (fun q9 => ?_)
      refine g_astore hC [(4, .ref q9), (0, .ref (G.2.1 0)), (1, .int p0), (2, .int p1), (3, .int p2)] dL_plate_14 (by decide) rfl ?_
      refine g_iconst (v := nI 2) hC dL_plate_16 (by decide) ?_
      exact g_iret hC hr dL_plate_17 (Nat.le_of_ble_eq_true rfl) (Nat.le_of_ble_eq_true rfl) ⟨2, rfl, Or.inr ⟨by decide, by decide, ⟨hV9, hI9, hJ9, htc⟩⟩⟩
    | k + 2, hk => cases hk
  · have hr9 : r9 = none := hp9.2.1
    subst hr9
    refine g_at rfl rfl (st2 := []) rfl ?_
    refine g_goto hC 18 dL_plate_7 (by decide) ?_
    refine g_iconst (v := nI 0) hC dL_plate_18 (by decide) ?_
    exact g_iret hC hr dL_plate_19 (Nat.le_of_ble_eq_true rfl) (Nat.le_of_ble_eq_true rfl) ⟨0, rfl, Or.inl ⟨rfl, hp9⟩⟩

set_option maxRecDepth 100000 in
theorem m_L_top {l : Launch} {G : wG} (hl : l.stackTraces = false) (hG : wD G) (V : wV) (I : wI) (J : wJ) (p0 p1 : Int32) : vx_Met l yL_top (Cond.codeWith yL_top cL_top 5 (some .int) [(0, 9, 12, 19), (0, 9, 16, 21)] :: TT) { frames := 8, cells := 6, slots := 36, locals := 134 } (cP G [.ref (G.2.1 0), .int p0, .int p1, .ref (G.2.1 80)] V I J) (cQ G (wQl (fun r V9 I9 J9 => tcTop p0 p1 = 0 ∧ V9 = V ∧ I9 = I ∧ ∃ h, h < 6 ∧ p0 = nI h ∧ r = some (.long (J 29 h + p1.toInt64)) ∧ J9 = sJ J 29 h (J 29 h + p1.toInt64)) (wXc V I J (tcTop p0 p1)))) (cX G noX) 6 36 (wA G) := by
  refine ctrX_of (rm := { frames := 8, cells := 6, slots := 36, locals := 134 }) hl hG (by decide) (Nat.le_of_ble_eq_true rfl) [(0, .ref (G.2.1 0)), (1, .int p0), (2, .int p1), (3, .ref (G.2.1 80))] rfl ?_
  intro K hC hKl hRm hr hT
  subst hKl
  have hC : Cx K G RL cL_top 5 := hC
  refine g_aload_n hC dL_top_0 rfl 3 rfl ?_
  refine g_iconst (v := nI 0) hC dL_top_1 (by decide) ?_
  refine g_aload_n hC dL_top_2 rfl 0 rfl ?_
  refine g_iload_n hC dL_top_3 rfl 1 rfl ?_
  refine g_iload_n hC dL_top_4 rfl 2 rfl ?_
  refine g_callV hC [.int p0, .int p1] 0 (m_X6_top hl hG V I J p0 p1) rfl (by decide) rfl rfl rfl tw_534 tw_535 tw_536 tw_31 tw_537 pd_X6_top (by rw [hRm]; exact ⟨Nat.le_of_ble_eq_true rfl, Nat.le_of_ble_eq_true rfl⟩) (Nat.le_of_ble_eq_true rfl) (by rw [hRm]; exact ⟨Nat.le_of_ble_eq_true rfl, Nat.le_of_ble_eq_true rfl⟩) dL_top_5 (fun E9 V9 I9 J9 hx9 => ?_) (fun r9 V9 I9 J9 hp9 => ?_)
  · obtain ⟨hV9, hI9, hJ9, k, hk, htc⟩ := hx9
    match k, hk with
    | 0, hk =>
      cases hk
      refine g_catch hC [] ⟨0, 9, 12, 19⟩ [⟨0, 9, 16, 21⟩] hT (List.mem_of_getElem? (i := 2) rfl) (fun z hz => absurd hz List.not_mem_nil) (by decide) (by decide) tw_449 (fun q9 => ?_)
      refine g_astore hC [(4, .ref q9), (0, .ref (G.2.1 0)), (1, .int p0), (2, .int p1), (3, .ref (G.2.1 80))] dL_top_12 (by decide) rfl ?_
      refine g_iconst (v := nI 1) hC dL_top_14 (by decide) ?_
      exact g_iret hC hr dL_top_15 (Nat.le_of_ble_eq_true rfl) (Nat.le_of_ble_eq_true rfl) ⟨1, rfl, Or.inr ⟨by decide, by decide, ⟨hV9, hI9, hJ9, htc⟩⟩⟩
    | 1, hk =>
      cases hk
      refine g_catch hC [⟨0, 9, 12, 19⟩] ⟨0, 9, 16, 21⟩ [] hT (List.mem_of_getElem? (i := 1) rfl) (List.forall_mem_cons.mpr ⟨⟨by decide, xIOB, tw_449, (List.mem_of_getElem? (i := 2) rfl), by decide⟩, (fun _ h9 => absurd h9 List.not_mem_nil)⟩) (by decide) (by decide) tw_450 (fun q9 => ?_)
      refine g_astore hC [(4, .ref q9), (0, .ref (G.2.1 0)), (1, .int p0), (2, .int p1), (3, .ref (G.2.1 80))] dL_top_16 (by decide) rfl ?_
      refine g_iconst (v := nI 2) hC dL_top_18 (by decide) ?_
      exact g_iret hC hr dL_top_19 (Nat.le_of_ble_eq_true rfl) (Nat.le_of_ble_eq_true rfl) ⟨2, rfl, Or.inr ⟨by decide, by decide, ⟨hV9, hI9, hJ9, htc⟩⟩⟩
    | k + 2, hk => cases hk
  · obtain ⟨x, hr9⟩ : ∃ x : Int64, r9 = some (.long x) := by
      obtain ⟨-, -, -, h, -, -, e, -⟩ := hp9
      exact ⟨_, e⟩
    subst hr9
    refine g_at rfl rfl (st2 := [.long x, .int (nI 0), .ref (G.2.1 80)]) rfl ?_
    refine n_last hC 80 aa_80 0 (show 0 < 1 by omega) dL_top_8 ?_
    refine g_goto hC 20 dL_top_9 (by decide) ?_
    refine g_iconst (v := nI 0) hC dL_top_20 (by decide) ?_
    exact g_iret hC hr dL_top_21 (Nat.le_of_ble_eq_true rfl) (Nat.le_of_ble_eq_true rfl) ⟨0, rfl, Or.inl ⟨rfl, x, J9, hp9, rfl⟩⟩

set_option maxRecDepth 100000 in
theorem m_L_exempt {l : Launch} {G : wG} (hl : l.stackTraces = false) (hG : wD G) (V : wV) (I : wI) (J : wJ) (ns : Nat) (p0 p1 p2 : Int32) (v4 : V 4 = nI ns) (hs : ns ≤ 20) : vx_Met l yL_exempt (Cond.codeWith yL_exempt cL_exempt 6 (some .int) [(0, 12, 15, 19), (0, 12, 19, 21), (0, 12, 23, 13)] :: TT) { frames := 8, cells := 6, slots := 36, locals := 135 } (cP G [.ref (G.2.1 0), .int p0, .int p1, .int p2, .ref (G.2.1 80)] V I J) (cQ G (wQi (fun r V9 I9 J9 => tcExempt ns p0 p1 p2 = 0 ∧ r = some (.int (nI (ns + 1))) ∧ V9 = upd V 4 (nI (ns + 1)) ∧ ns < 20 ∧ I9 = uI (uI (uI I 16 (upd (I 16) ns p0)) 17 (upd (I 17) ns p1)) 18 (upd (I 18) ns p2) ∧ J9 = J) (wXc V I J (tcExempt ns p0 p1 p2)))) (cX G noX) 6 36 (wA G) := by
  refine ctrX_of (rm := { frames := 8, cells := 6, slots := 36, locals := 135 }) hl hG (by decide) (Nat.le_of_ble_eq_true rfl) [(0, .ref (G.2.1 0)), (1, .int p0), (2, .int p1), (3, .int p2), (4, .ref (G.2.1 80))] rfl ?_
  intro K hC hKl hRm hr hT
  subst hKl
  have hC : Cx K G RL cL_exempt 6 := hC
  refine g_aload hC dL_exempt_0 4 rfl ?_
  refine g_iconst (v := nI 0) hC dL_exempt_2 (by decide) ?_
  refine g_aload_n hC dL_exempt_3 rfl 0 rfl ?_
  refine g_iload_n hC dL_exempt_4 rfl 1 rfl ?_
  refine g_iload_n hC dL_exempt_5 rfl 2 rfl ?_
  refine g_iload_n hC dL_exempt_6 rfl 3 rfl ?_
  refine g_callV hC [.int p0, .int p1, .int p2] 0 (m_X6_exempt hl hG V I J ns p0 p1 p2 v4 hs) rfl (by decide) rfl rfl rfl tw_545 tw_546 tw_547 tw_31 tw_548 pd_X6_exempt (by rw [hRm]; exact ⟨Nat.le_of_ble_eq_true rfl, Nat.le_of_ble_eq_true rfl⟩) (Nat.le_of_ble_eq_true rfl) (by rw [hRm]; exact ⟨Nat.le_of_ble_eq_true rfl, Nat.le_of_ble_eq_true rfl⟩) dL_exempt_7 (fun E9 V9 I9 J9 hx9 => ?_) (fun r9 V9 I9 J9 hp9 => ?_)
  · obtain ⟨hV9, hI9, hJ9, k, hk, htc⟩ := hx9
    match k, hk with
    | 0, hk =>
      cases hk
      refine g_catch hC [] ⟨0, 12, 15, 19⟩ [⟨0, 12, 19, 21⟩, ⟨0, 12, 23, 13⟩] hT (List.mem_of_getElem? (i := 2) rfl) (fun z hz => absurd hz List.not_mem_nil) (by decide) (by decide) tw_449 (fun q9 => ?_)
      refine g_astore hC [(5, .ref q9), (0, .ref (G.2.1 0)), (1, .int p0), (2, .int p1), (3, .int p2), (4, .ref (G.2.1 80))] dL_exempt_15 (by decide) rfl ?_
      refine g_iconst (v := nI 1) hC dL_exempt_17 (by decide) ?_
      exact g_iret hC hr dL_exempt_18 (Nat.le_of_ble_eq_true rfl) (Nat.le_of_ble_eq_true rfl) ⟨1, rfl, Or.inr ⟨by decide, by decide, ⟨hV9, hI9, hJ9, htc⟩⟩⟩
    | 1, hk =>
      cases hk
      refine g_catch hC [⟨0, 12, 15, 19⟩] ⟨0, 12, 19, 21⟩ [⟨0, 12, 23, 13⟩] hT (List.mem_of_getElem? (i := 1) rfl) (List.forall_mem_cons.mpr ⟨⟨by decide, xIOB, tw_449, (List.mem_of_getElem? (i := 2) rfl), by decide⟩, (fun _ h9 => absurd h9 List.not_mem_nil)⟩) (by decide) (by decide) tw_450 (fun q9 => ?_)
      refine g_astore hC [(5, .ref q9), (0, .ref (G.2.1 0)), (1, .int p0), (2, .int p1), (3, .int p2), (4, .ref (G.2.1 80))] dL_exempt_19 (by decide) rfl ?_
      refine g_iconst (v := nI 2) hC dL_exempt_21 (by decide) ?_
      exact g_iret hC hr dL_exempt_22 (Nat.le_of_ble_eq_true rfl) (Nat.le_of_ble_eq_true rfl) ⟨2, rfl, Or.inr ⟨by decide, by decide, ⟨hV9, hI9, hJ9, htc⟩⟩⟩
    | 2, hk =>
      cases hk
      refine g_catch hC [⟨0, 12, 15, 19⟩, ⟨0, 12, 19, 21⟩] ⟨0, 12, 23, 13⟩ [] hT (List.mem_of_getElem? (i := 0) rfl) (List.forall_mem_cons.mpr ⟨⟨by decide, xIOB, tw_449, (List.mem_of_getElem? (i := 2) rfl), by decide⟩, (List.forall_mem_cons.mpr ⟨⟨by decide, xIAE, tw_450, (List.mem_of_getElem? (i := 1) rfl), by decide⟩, (fun _ h9 => absurd h9 List.not_mem_nil)⟩)⟩) (by decide) (by decide) tw_369 (fun q9 => ?_)
      refine g_astore hC [(5, .ref q9), (0, .ref (G.2.1 0)), (1, .int p0), (2, .int p1), (3, .int p2), (4, .ref (G.2.1 80))] dL_exempt_23 (by decide) rfl ?_
      refine g_iconst (v := nI 3) hC dL_exempt_25 (by decide) ?_
      exact g_iret hC hr dL_exempt_26 (Nat.le_of_ble_eq_true rfl) (Nat.le_of_ble_eq_true rfl) ⟨3, rfl, Or.inr ⟨by decide, by decide, ⟨hV9, hI9, hJ9, htc⟩⟩⟩
    | k + 3, hk => cases hk
  · obtain ⟨x, hr9⟩ : ∃ x : Int32, r9 = some (.int x) := by
      exact ⟨_, hp9.2.1⟩
    subst hr9
    refine g_at rfl rfl (st2 := [.int x, .int (nI 0), .ref (G.2.1 80)]) rfl ?_
    refine g_i2l hC dL_exempt_10 ?_
    refine n_last hC 80 aa_80 0 (show 0 < 1 by omega) dL_exempt_11 ?_
    refine g_goto hC 27 dL_exempt_12 (by decide) ?_
    refine g_iconst (v := nI 0) hC dL_exempt_27 (by decide) ?_
    exact g_iret hC hr dL_exempt_28 (Nat.le_of_ble_eq_true rfl) (Nat.le_of_ble_eq_true rfl) ⟨0, rfl, Or.inl ⟨rfl, x, J9, hp9, rfl⟩⟩

set_option maxRecDepth 100000 in
theorem m_L_read {l : Launch} {G : wG} (hl : l.stackTraces = false) (hG : wD G) (V : wV) (I : wI) (J : wJ) (ng n : Nat) (p0 p1 p2 : Int32) (v1 : V 1 = nI ng) (v5 : V 5 = nI n) (hg : ng ≤ 12) (hn : n ≤ 100) (ho : wfO I n) : vx_Met l yL_read (Cond.codeWith yL_read cL_read 6 (some .int) [(0, 12, 15, 19), (0, 12, 19, 21), (0, 12, 23, 13)] :: TT) { frames := 8, cells := 6, slots := 36, locals := 135 } (cP G [.ref (G.2.1 0), .int p0, .int p1, .int p2, .ref (G.2.1 80)] V I J) (cQ G (wQi (fun r V9 I9 J9 => tcRead ng n (V 0) p0 p1 p2 = 0 ∧ r = some (.int (nI n)) ∧ V9 = upd V 5 (nI (n + 1)) ∧ n < 100 ∧ J9 = J ∧ ∃ q, q ≤ n ∧ I9 = uI (rdI I n p0 p1 p2) 23 (upd (shf (I 23) n q) q (nI n)) ∧ (q = 0 ∨ I 21 (I 23 (q - 1)).toNatClampNeg ≤ p2) ∧ ∀ z, q ≤ z → z < n → p2 < I 21 (I 23 z).toNatClampNeg) (wXc V I J (tcRead ng n (V 0) p0 p1 p2)))) (cX G noX) 6 36 (wA G) := by
  refine ctrX_of (rm := { frames := 8, cells := 6, slots := 36, locals := 135 }) hl hG (by decide) (Nat.le_of_ble_eq_true rfl) [(0, .ref (G.2.1 0)), (1, .int p0), (2, .int p1), (3, .int p2), (4, .ref (G.2.1 80))] rfl ?_
  intro K hC hKl hRm hr hT
  subst hKl
  have hC : Cx K G RL cL_read 6 := hC
  refine g_aload hC dL_read_0 4 rfl ?_
  refine g_iconst (v := nI 0) hC dL_read_2 (by decide) ?_
  refine g_aload_n hC dL_read_3 rfl 0 rfl ?_
  refine g_iload_n hC dL_read_4 rfl 1 rfl ?_
  refine g_iload_n hC dL_read_5 rfl 2 rfl ?_
  refine g_iload_n hC dL_read_6 rfl 3 rfl ?_
  refine g_callV hC [.int p0, .int p1, .int p2] 0 (m_X6_read hl hG V I J ng n p0 p1 p2 v1 v5 hg hn ho) rfl (by decide) rfl rfl rfl tw_557 tw_558 tw_559 tw_31 tw_560 pd_X6_read (by rw [hRm]; exact ⟨Nat.le_of_ble_eq_true rfl, Nat.le_of_ble_eq_true rfl⟩) (Nat.le_of_ble_eq_true rfl) (by rw [hRm]; exact ⟨Nat.le_of_ble_eq_true rfl, Nat.le_of_ble_eq_true rfl⟩) dL_read_7 (fun E9 V9 I9 J9 hx9 => ?_) (fun r9 V9 I9 J9 hp9 => ?_)
  · obtain ⟨hV9, hI9, hJ9, k, hk, htc⟩ := hx9
    match k, hk with
    | 0, hk =>
      cases hk
      refine g_catch hC [] ⟨0, 12, 15, 19⟩ [⟨0, 12, 19, 21⟩, ⟨0, 12, 23, 13⟩] hT (List.mem_of_getElem? (i := 2) rfl) (fun z hz => absurd hz List.not_mem_nil) (by decide) (by decide) tw_449 (fun q9 => ?_)
      refine g_astore hC [(5, .ref q9), (0, .ref (G.2.1 0)), (1, .int p0), (2, .int p1), (3, .int p2), (4, .ref (G.2.1 80))] dL_read_15 (by decide) rfl ?_
      refine g_iconst (v := nI 1) hC dL_read_17 (by decide) ?_
      exact g_iret hC hr dL_read_18 (Nat.le_of_ble_eq_true rfl) (Nat.le_of_ble_eq_true rfl) ⟨1, rfl, Or.inr ⟨by decide, by decide, ⟨hV9, hI9, hJ9, htc⟩⟩⟩
    | 1, hk =>
      cases hk
      refine g_catch hC [⟨0, 12, 15, 19⟩] ⟨0, 12, 19, 21⟩ [⟨0, 12, 23, 13⟩] hT (List.mem_of_getElem? (i := 1) rfl) (List.forall_mem_cons.mpr ⟨⟨by decide, xIOB, tw_449, (List.mem_of_getElem? (i := 2) rfl), by decide⟩, (fun _ h9 => absurd h9 List.not_mem_nil)⟩) (by decide) (by decide) tw_450 (fun q9 => ?_)
      refine g_astore hC [(5, .ref q9), (0, .ref (G.2.1 0)), (1, .int p0), (2, .int p1), (3, .int p2), (4, .ref (G.2.1 80))] dL_read_19 (by decide) rfl ?_
      refine g_iconst (v := nI 2) hC dL_read_21 (by decide) ?_
      exact g_iret hC hr dL_read_22 (Nat.le_of_ble_eq_true rfl) (Nat.le_of_ble_eq_true rfl) ⟨2, rfl, Or.inr ⟨by decide, by decide, ⟨hV9, hI9, hJ9, htc⟩⟩⟩
    | 2, hk =>
      cases hk
      refine g_catch hC [⟨0, 12, 15, 19⟩, ⟨0, 12, 19, 21⟩] ⟨0, 12, 23, 13⟩ [] hT (List.mem_of_getElem? (i := 0) rfl) (List.forall_mem_cons.mpr ⟨⟨by decide, xIOB, tw_449, (List.mem_of_getElem? (i := 2) rfl), by decide⟩, (List.forall_mem_cons.mpr ⟨⟨by decide, xIAE, tw_450, (List.mem_of_getElem? (i := 1) rfl), by decide⟩, (fun _ h9 => absurd h9 List.not_mem_nil)⟩)⟩) (by decide) (by decide) tw_369 (fun q9 => ?_)
      refine g_astore hC [(5, .ref q9), (0, .ref (G.2.1 0)), (1, .int p0), (2, .int p1), (3, .int p2), (4, .ref (G.2.1 80))] dL_read_23 (by decide) rfl ?_
      refine g_iconst (v := nI 3) hC dL_read_25 (by decide) ?_
      exact g_iret hC hr dL_read_26 (Nat.le_of_ble_eq_true rfl) (Nat.le_of_ble_eq_true rfl) ⟨3, rfl, Or.inr ⟨by decide, by decide, ⟨hV9, hI9, hJ9, htc⟩⟩⟩
    | k + 3, hk => cases hk
  · obtain ⟨x, hr9⟩ : ∃ x : Int32, r9 = some (.int x) := by
      exact ⟨_, hp9.2.1⟩
    subst hr9
    refine g_at rfl rfl (st2 := [.int x, .int (nI 0), .ref (G.2.1 80)]) rfl ?_
    refine g_i2l hC dL_read_10 ?_
    refine n_last hC 80 aa_80 0 (show 0 < 1 by omega) dL_read_11 ?_
    refine g_goto hC 27 dL_read_12 (by decide) ?_
    refine g_iconst (v := nI 0) hC dL_read_27 (by decide) ?_
    exact g_iret hC hr dL_read_28 (Nat.le_of_ble_eq_true rfl) (Nat.le_of_ble_eq_true rfl) ⟨0, rfl, Or.inl ⟨rfl, x, J9, hp9, rfl⟩⟩

set_option maxRecDepth 100000 in
theorem m_L_strike {l : Launch} {G : wG} (hl : l.stackTraces = false) (hG : wD G) (V : wV) (I : wI) (J : wJ) (n : Nat) (p0 : Int32) (v5 : V 5 = nI n) (hn : n ≤ 100) : vx_Met l yL_strike (Cond.codeWith yL_strike cL_strike 3 (some .int) [(0, 5, 8, 19), (0, 5, 11, 13)] :: TT) { frames := 8, cells := 6, slots := 36, locals := 133 } (cP G [.ref (G.2.1 0), .int p0] V I J) (cQ G (wQv (fun r V9 I9 J9 => tcStrike I n p0 = 0 ∧ r = none ∧ V9 = V ∧ J9 = J ∧ ∃ q, q < n ∧ p0 = nI q ∧ I9 = sI I 22 q (nI 1)) (wXc V I J (tcStrike I n p0)))) (cX G noX) 6 36 (wA G) := by
  refine ctrX_of (rm := { frames := 8, cells := 6, slots := 36, locals := 133 }) hl hG (by decide) (Nat.le_of_ble_eq_true rfl) [(0, .ref (G.2.1 0)), (1, .int p0)] rfl ?_
  intro K hC hKl hRm hr hT
  subst hKl
  have hC : Cx K G RL cL_strike 3 := hC
  refine g_aload_n hC dL_strike_0 rfl 0 rfl ?_
  refine g_iload_n hC dL_strike_1 rfl 1 rfl ?_
  refine g_callV hC [.int p0] 0 (m_X6_strike hl hG V I J n p0 v5 hn) rfl (by decide) rfl rfl rfl tw_569 tw_570 tw_571 tw_31 tw_572 pd_X6_strike (by rw [hRm]; exact ⟨Nat.le_of_ble_eq_true rfl, Nat.le_of_ble_eq_true rfl⟩) (Nat.le_of_ble_eq_true rfl) (by rw [hRm]; exact ⟨Nat.le_of_ble_eq_true rfl, Nat.le_of_ble_eq_true rfl⟩) dL_strike_2 (fun E9 V9 I9 J9 hx9 => ?_) (fun r9 V9 I9 J9 hp9 => ?_)
  · obtain ⟨hV9, hI9, hJ9, k, hk, htc⟩ := hx9
    match k, hk with
    | 0, hk =>
      cases hk
      refine g_catch hC [] ⟨0, 5, 8, 19⟩ [⟨0, 5, 11, 13⟩] hT (List.mem_of_getElem? (i := 2) rfl) (fun z hz => absurd hz List.not_mem_nil) (by decide) (by decide) tw_449 (fun q9 => ?_)
      refine g_astore_n hC [(2, .ref q9), (0, .ref (G.2.1 0)), (1, .int p0)] dL_strike_8 rfl (by decide) rfl ?_
      refine g_iconst (v := nI 1) hC dL_strike_9 (by decide) ?_
      exact g_iret hC hr dL_strike_10 (Nat.le_of_ble_eq_true rfl) (Nat.le_of_ble_eq_true rfl) ⟨1, rfl, Or.inr ⟨by decide, by decide, ⟨hV9, hI9, hJ9, htc⟩⟩⟩
    | 1, hk =>
      cases hk
      refine g_catch hC [⟨0, 5, 8, 19⟩] ⟨0, 5, 11, 13⟩ [] hT (List.mem_of_getElem? (i := 0) rfl) (List.forall_mem_cons.mpr ⟨⟨by decide, xIOB, tw_449, (List.mem_of_getElem? (i := 2) rfl), by decide⟩, (fun _ h9 => absurd h9 List.not_mem_nil)⟩) (by decide) (by decide) tw_369 (fun q9 => ?_)
      refine g_astore_n hC [(2, .ref q9), (0, .ref (G.2.1 0)), (1, .int p0)] dL_strike_11 rfl (by decide) rfl ?_
      refine g_iconst (v := nI 2) hC dL_strike_12 (by decide) ?_
      exact g_iret hC hr dL_strike_13 (Nat.le_of_ble_eq_true rfl) (Nat.le_of_ble_eq_true rfl) ⟨2, rfl, Or.inr ⟨by decide, by decide, ⟨hV9, hI9, hJ9, htc⟩⟩⟩
    | k + 2, hk => cases hk
  · have hr9 : r9 = none := hp9.2.1
    subst hr9
    refine g_at rfl rfl (st2 := []) rfl ?_
    refine g_goto hC 14 dL_strike_5 (by decide) ?_
    refine g_iconst (v := nI 0) hC dL_strike_14 (by decide) ?_
    exact g_iret hC hr dL_strike_15 (Nat.le_of_ble_eq_true rfl) (Nat.le_of_ble_eq_true rfl) ⟨0, rfl, Or.inl ⟨rfl, hp9⟩⟩

set_option maxRecDepth 100000 in
theorem m_L_pass {l : Launch} {G : wG} (hl : l.stackTraces = false) (hG : wD G) (V : wV) (I : wI) (J : wJ) (p0 : Int32) : vx_Met l yL_pass (Cond.codeWith yL_pass cL_pass 4 (some .int) [(0, 9, 12, 21), (0, 9, 15, 13)] :: TT) { frames := 8, cells := 6, slots := 36, locals := 133 } (cP G [.ref (G.2.1 0), .int p0, .ref (G.2.1 80)] V I J) (cQ G (wQi (fun r V9 I9 J9 => tcPass (V 0) p0 = 0 ∧ r = some (.int (V 0 + p0)) ∧ V9 = upd V 0 (V 0 + p0) ∧ I9 = I ∧ J9 = J) (wXc V I J (tcPass (V 0) p0)))) (cX G noX) 6 36 (wA G) := by
  refine ctrX_of (rm := { frames := 8, cells := 6, slots := 36, locals := 133 }) hl hG (by decide) (Nat.le_of_ble_eq_true rfl) [(0, .ref (G.2.1 0)), (1, .int p0), (2, .ref (G.2.1 80))] rfl ?_
  intro K hC hKl hRm hr hT
  subst hKl
  have hC : Cx K G RL cL_pass 4 := hC
  refine g_aload_n hC dL_pass_0 rfl 2 rfl ?_
  refine g_iconst (v := nI 0) hC dL_pass_1 (by decide) ?_
  refine g_aload_n hC dL_pass_2 rfl 0 rfl ?_
  refine g_iload_n hC dL_pass_3 rfl 1 rfl ?_
  refine g_callV hC [.int p0] 0 (m_X6_pass hl hG V I J p0) rfl (by decide) rfl rfl rfl tw_582 tw_583 tw_584 tw_31 tw_585 pd_X6_pass (by rw [hRm]; exact ⟨Nat.le_of_ble_eq_true rfl, Nat.le_of_ble_eq_true rfl⟩) (Nat.le_of_ble_eq_true rfl) (by rw [hRm]; exact ⟨Nat.le_of_ble_eq_true rfl, Nat.le_of_ble_eq_true rfl⟩) dL_pass_4 (fun E9 V9 I9 J9 hx9 => ?_) (fun r9 V9 I9 J9 hp9 => ?_)
  · obtain ⟨hV9, hI9, hJ9, k, hk, htc⟩ := hx9
    match k, hk with
    | 0, hk =>
      cases hk
      refine g_catch hC [] ⟨0, 9, 12, 21⟩ [⟨0, 9, 15, 13⟩] hT (List.mem_of_getElem? (i := 1) rfl) (fun z hz => absurd hz List.not_mem_nil) (by decide) (by decide) tw_450 (fun q9 => ?_)
      refine g_astore_n hC [(3, .ref q9), (0, .ref (G.2.1 0)), (1, .int p0), (2, .ref (G.2.1 80))] dL_pass_12 rfl (by decide) rfl ?_
      refine g_iconst (v := nI 1) hC dL_pass_13 (by decide) ?_
      exact g_iret hC hr dL_pass_14 (Nat.le_of_ble_eq_true rfl) (Nat.le_of_ble_eq_true rfl) ⟨1, rfl, Or.inr ⟨by decide, by decide, ⟨hV9, hI9, hJ9, htc⟩⟩⟩
    | 1, hk =>
      cases hk
      refine g_catch hC [⟨0, 9, 12, 21⟩] ⟨0, 9, 15, 13⟩ [] hT (List.mem_of_getElem? (i := 0) rfl) (List.forall_mem_cons.mpr ⟨⟨by decide, xIAE, tw_450, (List.mem_of_getElem? (i := 1) rfl), by decide⟩, (fun _ h9 => absurd h9 List.not_mem_nil)⟩) (by decide) (by decide) tw_369 (fun q9 => ?_)
      refine g_astore_n hC [(3, .ref q9), (0, .ref (G.2.1 0)), (1, .int p0), (2, .ref (G.2.1 80))] dL_pass_15 rfl (by decide) rfl ?_
      refine g_iconst (v := nI 2) hC dL_pass_16 (by decide) ?_
      exact g_iret hC hr dL_pass_17 (Nat.le_of_ble_eq_true rfl) (Nat.le_of_ble_eq_true rfl) ⟨2, rfl, Or.inr ⟨by decide, by decide, ⟨hV9, hI9, hJ9, htc⟩⟩⟩
    | k + 2, hk => cases hk
  · obtain ⟨x, hr9⟩ : ∃ x : Int32, r9 = some (.int x) := by
      exact ⟨_, hp9.2.1⟩
    subst hr9
    refine g_at rfl rfl (st2 := [.int x, .int (nI 0), .ref (G.2.1 80)]) rfl ?_
    refine g_i2l hC dL_pass_7 ?_
    refine n_last hC 80 aa_80 0 (show 0 < 1 by omega) dL_pass_8 ?_
    refine g_goto hC 18 dL_pass_9 (by decide) ?_
    refine g_iconst (v := nI 0) hC dL_pass_18 (by decide) ?_
    exact g_iret hC hr dL_pass_19 (Nat.le_of_ble_eq_true rfl) (Nat.le_of_ble_eq_true rfl) ⟨0, rfl, Or.inl ⟨rfl, x, J9, hp9, rfl⟩⟩

set_option maxRecDepth 100000 in
theorem m_L_distance {l : Launch} {G : wG} (hl : l.stackTraces = false) (hG : wD G) (V : wV) (I : wI) (J : wJ) (ng : Nat) (p0 p1 : Int32) (v1 : V 1 = nI ng) (hg : ng ≤ 12) : vx_Met l yL_distance (Cond.codeWith yL_distance cL_distance 5 (some .int) [(0, 10, 13, 19)] :: TT) { frames := 8, cells := 6, slots := 36, locals := 134 } (cP G [.ref (G.2.1 0), .int p0, .int p1, .ref (G.2.1 80)] V I J) (cQ G (wQi (fun r V9 I9 J9 => tcDist ng p0 p1 = 0 ∧ V9 = V ∧ I9 = I ∧ J9 = J ∧ ∃ a b, a < ng ∧ b < ng ∧ p0 = nI a ∧ p1 = nI b ∧ r = some (.int (if I (35 + a) b < nI 1000000 then I (35 + a) b else -1))) (wXc V I J (tcDist ng p0 p1)))) (cX G noX) 6 36 (wA G) := by
  refine ctrX_of (rm := { frames := 8, cells := 6, slots := 36, locals := 134 }) hl hG (by decide) (Nat.le_of_ble_eq_true rfl) [(0, .ref (G.2.1 0)), (1, .int p0), (2, .int p1), (3, .ref (G.2.1 80))] rfl ?_
  intro K hC hKl hRm hr hT
  subst hKl
  have hC : Cx K G RL cL_distance 5 := hC
  refine g_aload_n hC dL_distance_0 rfl 3 rfl ?_
  refine g_iconst (v := nI 0) hC dL_distance_1 (by decide) ?_
  refine g_aload_n hC dL_distance_2 rfl 0 rfl ?_
  refine g_iload_n hC dL_distance_3 rfl 1 rfl ?_
  refine g_iload_n hC dL_distance_4 rfl 2 rfl ?_
  refine g_callV hC [.int p0, .int p1] 0 (m_X6_distance hl hG V I J ng p0 p1 v1 hg) rfl (by decide) rfl rfl rfl tw_590 tw_591 tw_592 tw_31 tw_593 pd_X6_distance (by rw [hRm]; exact ⟨Nat.le_of_ble_eq_true rfl, Nat.le_of_ble_eq_true rfl⟩) (Nat.le_of_ble_eq_true rfl) (by rw [hRm]; exact ⟨Nat.le_of_ble_eq_true rfl, Nat.le_of_ble_eq_true rfl⟩) dL_distance_5 (fun E9 V9 I9 J9 hx9 => ?_) (fun r9 V9 I9 J9 hp9 => ?_)
  · obtain ⟨hV9, hI9, hJ9, k, hk, htc⟩ := hx9
    match k, hk with
    | 0, hk =>
      cases hk
      refine g_catch hC [] ⟨0, 10, 13, 19⟩ [] hT (List.mem_of_getElem? (i := 2) rfl) (fun z hz => absurd hz List.not_mem_nil) (by decide) (by decide) tw_449 (fun q9 => ?_)
      refine g_astore hC [(4, .ref q9), (0, .ref (G.2.1 0)), (1, .int p0), (2, .int p1), (3, .ref (G.2.1 80))] dL_distance_13 (by decide) rfl ?_
      refine g_iconst (v := nI 1) hC dL_distance_15 (by decide) ?_
      exact g_iret hC hr dL_distance_16 (Nat.le_of_ble_eq_true rfl) (Nat.le_of_ble_eq_true rfl) ⟨1, rfl, Or.inr ⟨by decide, by decide, ⟨hV9, hI9, hJ9, htc⟩⟩⟩
    | k + 1, hk => cases hk
  · obtain ⟨x, hr9⟩ : ∃ x : Int32, r9 = some (.int x) := by
      obtain ⟨-, -, -, -, a, b, -, -, -, -, e⟩ := hp9
      exact ⟨_, e⟩
    subst hr9
    refine g_at rfl rfl (st2 := [.int x, .int (nI 0), .ref (G.2.1 80)]) rfl ?_
    refine g_i2l hC dL_distance_8 ?_
    refine n_last hC 80 aa_80 0 (show 0 < 1 by omega) dL_distance_9 ?_
    refine g_goto hC 17 dL_distance_10 (by decide) ?_
    refine g_iconst (v := nI 0) hC dL_distance_17 (by decide) ?_
    exact g_iret hC hr dL_distance_18 (Nat.le_of_ble_eq_true rfl) (Nat.le_of_ble_eq_true rfl) ⟨0, rfl, Or.inl ⟨rfl, x, J9, hp9, rfl⟩⟩

set_option maxRecDepth 100000 in
theorem m_L_way {l : Launch} {G : wG} (hl : l.stackTraces = false) (hG : wD G) (V : wV) (I : wI) (J : wJ) (ng nr : Nat) (p0 p1 p2 : Int32) (v1 : V 1 = nI ng) (v2 : V 2 = nI nr) (hg : ng ≤ 12) (hw : wfR I nr) : vx_Met l yL_way (Cond.codeWith yL_way cL_way 6 (some .int) [(0, 12, 15, 19)] :: TT) { frames := 8, cells := 6, slots := 36, locals := 135 } (cP G [.ref (G.2.1 0), .int p0, .int p1, .int p2, .ref (G.2.1 80)] V I J) (cQ G (wQi (fun r V9 I9 J9 => tcWay ng p0 p1 p2 = 0 ∧ V9 = V ∧ I9 = I ∧ J9 = J ∧ ∃ a b, a < ng ∧ b < ng ∧ p0 = nI a ∧ p1 = nI b ∧ 0 ≤ p2 ∧ r = some (.int (rW I nr b p2 12 0 (nI a)))) (wXc V I J (tcWay ng p0 p1 p2)))) (cX G noX) 6 36 (wA G) := by
  refine ctrX_of (rm := { frames := 8, cells := 6, slots := 36, locals := 135 }) hl hG (by decide) (Nat.le_of_ble_eq_true rfl) [(0, .ref (G.2.1 0)), (1, .int p0), (2, .int p1), (3, .int p2), (4, .ref (G.2.1 80))] rfl ?_
  intro K hC hKl hRm hr hT
  subst hKl
  have hC : Cx K G RL cL_way 6 := hC
  refine g_aload hC dL_way_0 4 rfl ?_
  refine g_iconst (v := nI 0) hC dL_way_2 (by decide) ?_
  refine g_aload_n hC dL_way_3 rfl 0 rfl ?_
  refine g_iload_n hC dL_way_4 rfl 1 rfl ?_
  refine g_iload_n hC dL_way_5 rfl 2 rfl ?_
  refine g_iload_n hC dL_way_6 rfl 3 rfl ?_
  refine g_callV hC [.int p0, .int p1, .int p2] 0 (m_X6_way hl hG V I J ng nr p0 p1 p2 v1 v2 hg hw) rfl (by decide) rfl rfl rfl tw_597 tw_598 tw_599 tw_31 tw_600 pd_X6_way (by rw [hRm]; exact ⟨Nat.le_of_ble_eq_true rfl, Nat.le_of_ble_eq_true rfl⟩) (Nat.le_of_ble_eq_true rfl) (by rw [hRm]; exact ⟨Nat.le_of_ble_eq_true rfl, Nat.le_of_ble_eq_true rfl⟩) dL_way_7 (fun E9 V9 I9 J9 hx9 => ?_) (fun r9 V9 I9 J9 hp9 => ?_)
  · obtain ⟨hV9, hI9, hJ9, k, hk, htc⟩ := hx9
    match k, hk with
    | 0, hk =>
      cases hk
      refine g_catch hC [] ⟨0, 12, 15, 19⟩ [] hT (List.mem_of_getElem? (i := 2) rfl) (fun z hz => absurd hz List.not_mem_nil) (by decide) (by decide) tw_449 (fun q9 => ?_)
      refine g_astore hC [(5, .ref q9), (0, .ref (G.2.1 0)), (1, .int p0), (2, .int p1), (3, .int p2), (4, .ref (G.2.1 80))] dL_way_15 (by decide) rfl ?_
      refine g_iconst (v := nI 1) hC dL_way_17 (by decide) ?_
      exact g_iret hC hr dL_way_18 (Nat.le_of_ble_eq_true rfl) (Nat.le_of_ble_eq_true rfl) ⟨1, rfl, Or.inr ⟨by decide, by decide, ⟨hV9, hI9, hJ9, htc⟩⟩⟩
    | k + 1, hk => cases hk
  · obtain ⟨x, hr9⟩ : ∃ x : Int32, r9 = some (.int x) := by
      obtain ⟨-, -, -, -, a, b, -, -, -, -, -, e⟩ := hp9
      exact ⟨_, e⟩
    subst hr9
    refine g_at rfl rfl (st2 := [.int x, .int (nI 0), .ref (G.2.1 80)]) rfl ?_
    refine g_i2l hC dL_way_10 ?_
    refine n_last hC 80 aa_80 0 (show 0 < 1 by omega) dL_way_11 ?_
    refine g_goto hC 19 dL_way_12 (by decide) ?_
    refine g_iconst (v := nI 0) hC dL_way_19 (by decide) ?_
    exact g_iret hC hr dL_way_20 (Nat.le_of_ble_eq_true rfl) (Nat.le_of_ble_eq_true rfl) ⟨0, rfl, Or.inl ⟨rfl, x, J9, hp9, rfl⟩⟩

set_option maxRecDepth 100000 in
theorem m_L_journeys {l : Launch} {G : wG} (hl : l.stackTraces = false) (hG : wD G) (V : wV) (I : wI) (J : wJ) (nr n ns : Nat) (v2 : V 2 = nI nr) (v4 : V 4 = nI ns) (v5 : V 5 = nI n) (hw : wfC I nr n ns) (hz : ∀ r, I 28 r = 0 ∨ I 28 r = 1) (p0 : Int32) : vx_Met l yL_journeys (Cond.codeWith yL_journeys cL_journeys 4 (some .int) [(0, 9, 12, 19)] :: TT) { frames := 8, cells := 6, slots := 36, locals := 175 } (cP G [.ref (G.2.1 0), .int p0, .ref (G.2.1 80)] V I J) (cQ G (wQi (fun r V9 I9 J9 => tcIn p0 10 = 0 ∧ scr V I J V9 I9 J9 ∧ ∃ p, p < 10 ∧ p0 = nI p ∧ r = some (.int (nI (fj nr ns p I n).1))) (wXs V I J (tcIn p0 10)))) (cX G noX) 6 36 (wA G) := by
  refine ctrX_of (rm := { frames := 8, cells := 6, slots := 36, locals := 175 }) hl hG (by decide) (Nat.le_of_ble_eq_true rfl) [(0, .ref (G.2.1 0)), (1, .int p0), (2, .ref (G.2.1 80))] rfl ?_
  intro K hC hKl hRm hr hT
  subst hKl
  have hC : Cx K G RL cL_journeys 4 := hC
  refine g_aload_n hC dL_journeys_0 rfl 2 rfl ?_
  refine g_iconst (v := nI 0) hC dL_journeys_1 (by decide) ?_
  refine g_aload_n hC dL_journeys_2 rfl 0 rfl ?_
  refine g_iload_n hC dL_journeys_3 rfl 1 rfl ?_
  refine g_callV hC [.int p0] 0 (m_X6_journeys hl hG V I J nr n ns v2 v4 v5 hw hz p0) rfl (by decide) rfl rfl rfl tw_610 tw_611 tw_612 tw_31 tw_613 pd_X6_journeys (by rw [hRm]; exact ⟨Nat.le_of_ble_eq_true rfl, Nat.le_of_ble_eq_true rfl⟩) (Nat.le_of_ble_eq_true rfl) (by rw [hRm]; exact ⟨Nat.le_of_ble_eq_true rfl, Nat.le_of_ble_eq_true rfl⟩) dL_journeys_4 (fun E9 V9 I9 J9 hx9 => ?_) (fun r9 V9 I9 J9 hp9 => ?_)
  · obtain ⟨hsc, k, hk, htc⟩ := hx9
    match k, hk with
    | 0, hk =>
      cases hk
      refine g_catch hC [] ⟨0, 9, 12, 19⟩ [] hT (List.mem_of_getElem? (i := 2) rfl) (fun z hz => absurd hz List.not_mem_nil) (by decide) (by decide) tw_449 (fun q9 => ?_)
      refine g_astore_n hC [(3, .ref q9), (0, .ref (G.2.1 0)), (1, .int p0), (2, .ref (G.2.1 80))] dL_journeys_12 rfl (by decide) rfl ?_
      refine g_iconst (v := nI 1) hC dL_journeys_13 (by decide) ?_
      exact g_iret hC hr dL_journeys_14 (Nat.le_of_ble_eq_true rfl) (Nat.le_of_ble_eq_true rfl) ⟨1, rfl, Or.inr ⟨by decide, by decide, ⟨hsc, htc⟩⟩⟩
    | k + 1, hk => cases hk
  · obtain ⟨x, hr9⟩ : ∃ x : Int32, r9 = some (.int x) := by
      obtain ⟨-, -, p, -, -, e⟩ := hp9
      exact ⟨_, e⟩
    subst hr9
    refine g_at rfl rfl (st2 := [.int x, .int (nI 0), .ref (G.2.1 80)]) rfl ?_
    refine g_i2l hC dL_journeys_7 ?_
    refine n_last hC 80 aa_80 0 (show 0 < 1 by omega) dL_journeys_8 ?_
    refine g_goto hC 15 dL_journeys_9 (by decide) ?_
    refine g_iconst (v := nI 0) hC dL_journeys_15 (by decide) ?_
    exact g_iret hC hr dL_journeys_16 (Nat.le_of_ble_eq_true rfl) (Nat.le_of_ble_eq_true rfl) ⟨0, rfl, Or.inl ⟨rfl, x, J9, hp9, rfl⟩⟩

set_option maxRecDepth 100000 in
theorem m_L_journey {l : Launch} {G : wG} (hl : l.stackTraces = false) (hG : wD G) (V : wV) (I : wI) (J : wJ) (nr n ns : Nat) (v2 : V 2 = nI nr) (v4 : V 4 = nI ns) (v5 : V 5 = nI n) (hw : wfC I nr n ns) (hz : ∀ r, I 28 r = 0 ∨ I 28 r = 1) (p0 p1 p2 : Int32) : vx_Met l yL_journey (Cond.codeWith yL_journey cL_journey 6 (some .int) [(0, 12, 15, 19), (0, 12, 19, 21)] :: TT) { frames := 8, cells := 6, slots := 36, locals := 177 } (cP G [.ref (G.2.1 0), .int p0, .int p1, .int p2, .ref (G.2.1 80)] V I J) (cQ G (wQi (fun r V9 I9 J9 => tcJourney (if inB p0 10 = true then (fj nr ns (tn p0) I n).1 else 0) p0 p1 p2 = 0 ∧ scr V I J V9 I9 J9 ∧ ∃ p j, p < 10 ∧ j < (fj nr ns p I n).1 ∧ p0 = nI p ∧ p1 = nI j ∧ ((p2 = nI 0 ∧ r = some (.int ((fj nr ns p I n).2.2 24 j))) ∨ (p2 = nI 1 ∧ r = some (.int ((fj nr ns p I n).2.2 25 j))) ∨ (p2 = nI 2 ∧ r = some (.int ((fj nr ns p I n).2.2 26 j))) ∨ (p2 = nI 3 ∧ r = some (.int (fr (fj nr ns p I n).2.2 j (V 3)))) ∨ (p2 = nI 4 ∧ r = some (.int (if V 0 - (fj nr ns p I n).2.2 25 j < nI 60 then nI 0 else nI 1))) ∨ ∃ o, o < 4 ∧ p2 = nI (5 + o) ∧ r = some (.int (shr (fj nr ns p I n).2.2 j o (V 3))))) (wXs V I J (tcJourney (if inB p0 10 = true then (fj nr ns (tn p0) I n).1 else 0) p0 p1 p2)))) (cX G noX) 6 36 (wA G) := by
  refine ctrX_of (rm := { frames := 8, cells := 6, slots := 36, locals := 177 }) hl hG (by decide) (Nat.le_of_ble_eq_true rfl) [(0, .ref (G.2.1 0)), (1, .int p0), (2, .int p1), (3, .int p2), (4, .ref (G.2.1 80))] rfl ?_
  intro K hC hKl hRm hr hT
  subst hKl
  have hC : Cx K G RL cL_journey 6 := hC
  refine g_aload hC dL_journey_0 4 rfl ?_
  refine g_iconst (v := nI 0) hC dL_journey_2 (by decide) ?_
  refine g_aload_n hC dL_journey_3 rfl 0 rfl ?_
  refine g_iload_n hC dL_journey_4 rfl 1 rfl ?_
  refine g_iload_n hC dL_journey_5 rfl 2 rfl ?_
  refine g_iload_n hC dL_journey_6 rfl 3 rfl ?_
  refine g_callV hC [.int p0, .int p1, .int p2] 0 (m_X6_journey hl hG V I J nr n ns v2 v4 v5 hw hz p0 p1 p2) rfl (by decide) rfl rfl rfl tw_617 tw_618 tw_619 tw_31 tw_620 pd_X6_journey (by rw [hRm]; exact ⟨Nat.le_of_ble_eq_true rfl, Nat.le_of_ble_eq_true rfl⟩) (Nat.le_of_ble_eq_true rfl) (by rw [hRm]; exact ⟨Nat.le_of_ble_eq_true rfl, Nat.le_of_ble_eq_true rfl⟩) dL_journey_7 (fun E9 V9 I9 J9 hx9 => ?_) (fun r9 V9 I9 J9 hp9 => ?_)
  · obtain ⟨hsc, k, hk, htc⟩ := hx9
    match k, hk with
    | 0, hk =>
      cases hk
      refine g_catch hC [] ⟨0, 12, 15, 19⟩ [⟨0, 12, 19, 21⟩] hT (List.mem_of_getElem? (i := 2) rfl) (fun z hz => absurd hz List.not_mem_nil) (by decide) (by decide) tw_449 (fun q9 => ?_)
      refine g_astore hC [(5, .ref q9), (0, .ref (G.2.1 0)), (1, .int p0), (2, .int p1), (3, .int p2), (4, .ref (G.2.1 80))] dL_journey_15 (by decide) rfl ?_
      refine g_iconst (v := nI 1) hC dL_journey_17 (by decide) ?_
      exact g_iret hC hr dL_journey_18 (Nat.le_of_ble_eq_true rfl) (Nat.le_of_ble_eq_true rfl) ⟨1, rfl, Or.inr ⟨by decide, by decide, ⟨hsc, htc⟩⟩⟩
    | 1, hk =>
      cases hk
      refine g_catch hC [⟨0, 12, 15, 19⟩] ⟨0, 12, 19, 21⟩ [] hT (List.mem_of_getElem? (i := 1) rfl) (List.forall_mem_cons.mpr ⟨⟨by decide, xIOB, tw_449, (List.mem_of_getElem? (i := 2) rfl), by decide⟩, (fun _ h9 => absurd h9 List.not_mem_nil)⟩) (by decide) (by decide) tw_450 (fun q9 => ?_)
      refine g_astore hC [(5, .ref q9), (0, .ref (G.2.1 0)), (1, .int p0), (2, .int p1), (3, .int p2), (4, .ref (G.2.1 80))] dL_journey_19 (by decide) rfl ?_
      refine g_iconst (v := nI 2) hC dL_journey_21 (by decide) ?_
      exact g_iret hC hr dL_journey_22 (Nat.le_of_ble_eq_true rfl) (Nat.le_of_ble_eq_true rfl) ⟨2, rfl, Or.inr ⟨by decide, by decide, ⟨hsc, htc⟩⟩⟩
    | k + 2, hk => cases hk
  · obtain ⟨x, hr9⟩ : ∃ x : Int32, r9 = some (.int x) := by
      obtain ⟨-, -, p, j, -, -, -, -, e⟩ := hp9
      rcases e with e | e | e | e | e | ⟨o, -, e⟩ <;> exact ⟨_, e.2⟩
    subst hr9
    refine g_at rfl rfl (st2 := [.int x, .int (nI 0), .ref (G.2.1 80)]) rfl ?_
    refine g_i2l hC dL_journey_10 ?_
    refine n_last hC 80 aa_80 0 (show 0 < 1 by omega) dL_journey_11 ?_
    refine g_goto hC 23 dL_journey_12 (by decide) ?_
    refine g_iconst (v := nI 0) hC dL_journey_23 (by decide) ?_
    exact g_iret hC hr dL_journey_24 (Nat.le_of_ble_eq_true rfl) (Nat.le_of_ble_eq_true rfl) ⟨0, rfl, Or.inl ⟨rfl, x, J9, hp9, rfl⟩⟩

set_option maxRecDepth 100000 in
theorem m_L_ofReading {l : Launch} {G : wG} (hl : l.stackTraces = false) (hG : wD G) (V : wV) (I : wI) (J : wJ) (nr n ns : Nat) (v2 : V 2 = nI nr) (v4 : V 4 = nI ns) (v5 : V 5 = nI n) (hw : wfC I nr n ns) (hz : ∀ r, I 28 r = 0 ∨ I 28 r = 1) (hb22 : ∀ r, I 22 r = 0 ∨ I 22 r = 1) (p0 p1 : Int32) : vx_Met l yL_ofReading (Cond.codeWith yL_ofReading cL_ofReading 5 (some .int) [(0, 10, 13, 19), (0, 10, 17, 21)] :: TT) { frames := 8, cells := 6, slots := 36, locals := 197 } (cP G [.ref (G.2.1 0), .int p0, .int p1, .ref (G.2.1 80)] V I J) (cQ G (wQi (fun r V9 I9 J9 => tcOfR n p0 p1 = 0 ∧ scr V I J V9 I9 J9 ∧ ∃ q, q < n ∧ p0 = nI q ∧ ((p1 = nI 0 ∧ r = some (.int (I 19 q))) ∨ (p1 = nI 1 ∧ r = some (.int (I 20 q))) ∨ (p1 = nI 2 ∧ r = some (.int (I 21 q))) ∨ (p1 = nI 3 ∧ r = some (.int (I 22 q))) ∨ (p1 = nI 4 ∧ r = some (.int (if I 22 q = 0 then (fj nr ns (tn (I 20 q)) I n).2.2 28 q else nI 0))) ∨ (p1 = nI 5 ∧ r = some (.int (if I 22 q = 0 then (fj nr ns (tn (I 20 q)) I n).2.2 27 q else -1))))) (wXs V I J (tcOfR n p0 p1)))) (cX G noX) 6 36 (wA G) := by
  refine ctrX_of (rm := { frames := 8, cells := 6, slots := 36, locals := 197 }) hl hG (by decide) (Nat.le_of_ble_eq_true rfl) [(0, .ref (G.2.1 0)), (1, .int p0), (2, .int p1), (3, .ref (G.2.1 80))] rfl ?_
  intro K hC hKl hRm hr hT
  subst hKl
  have hC : Cx K G RL cL_ofReading 5 := hC
  refine g_aload_n hC dL_ofReading_0 rfl 3 rfl ?_
  refine g_iconst (v := nI 0) hC dL_ofReading_1 (by decide) ?_
  refine g_aload_n hC dL_ofReading_2 rfl 0 rfl ?_
  refine g_iload_n hC dL_ofReading_3 rfl 1 rfl ?_
  refine g_iload_n hC dL_ofReading_4 rfl 2 rfl ?_
  refine g_callV hC [.int p0, .int p1] 0 (m_X6_ofReading hl hG V I J nr n ns v2 v4 v5 hw hz hb22 p0 p1) rfl (by decide) rfl rfl rfl tw_628 tw_629 tw_630 tw_31 tw_631 pd_X6_ofReading (by rw [hRm]; exact ⟨Nat.le_of_ble_eq_true rfl, Nat.le_of_ble_eq_true rfl⟩) (Nat.le_of_ble_eq_true rfl) (by rw [hRm]; exact ⟨Nat.le_of_ble_eq_true rfl, Nat.le_of_ble_eq_true rfl⟩) dL_ofReading_5 (fun E9 V9 I9 J9 hx9 => ?_) (fun r9 V9 I9 J9 hp9 => ?_)
  · obtain ⟨hsc, k, hk, htc⟩ := hx9
    match k, hk with
    | 0, hk =>
      cases hk
      refine g_catch hC [] ⟨0, 10, 13, 19⟩ [⟨0, 10, 17, 21⟩] hT (List.mem_of_getElem? (i := 2) rfl) (fun z hz => absurd hz List.not_mem_nil) (by decide) (by decide) tw_449 (fun q9 => ?_)
      refine g_astore hC [(4, .ref q9), (0, .ref (G.2.1 0)), (1, .int p0), (2, .int p1), (3, .ref (G.2.1 80))] dL_ofReading_13 (by decide) rfl ?_
      refine g_iconst (v := nI 1) hC dL_ofReading_15 (by decide) ?_
      exact g_iret hC hr dL_ofReading_16 (Nat.le_of_ble_eq_true rfl) (Nat.le_of_ble_eq_true rfl) ⟨1, rfl, Or.inr ⟨by decide, by decide, ⟨hsc, htc⟩⟩⟩
    | 1, hk =>
      cases hk
      refine g_catch hC [⟨0, 10, 13, 19⟩] ⟨0, 10, 17, 21⟩ [] hT (List.mem_of_getElem? (i := 1) rfl) (List.forall_mem_cons.mpr ⟨⟨by decide, xIOB, tw_449, (List.mem_of_getElem? (i := 2) rfl), by decide⟩, (fun _ h9 => absurd h9 List.not_mem_nil)⟩) (by decide) (by decide) tw_450 (fun q9 => ?_)
      refine g_astore hC [(4, .ref q9), (0, .ref (G.2.1 0)), (1, .int p0), (2, .int p1), (3, .ref (G.2.1 80))] dL_ofReading_17 (by decide) rfl ?_
      refine g_iconst (v := nI 2) hC dL_ofReading_19 (by decide) ?_
      exact g_iret hC hr dL_ofReading_20 (Nat.le_of_ble_eq_true rfl) (Nat.le_of_ble_eq_true rfl) ⟨2, rfl, Or.inr ⟨by decide, by decide, ⟨hsc, htc⟩⟩⟩
    | k + 2, hk => cases hk
  · obtain ⟨x, hr9⟩ : ∃ x : Int32, r9 = some (.int x) := by
      obtain ⟨-, -, q, -, -, e⟩ := hp9
      rcases e with e | e | e | e | e | e <;> exact ⟨_, e.2⟩
    subst hr9
    refine g_at rfl rfl (st2 := [.int x, .int (nI 0), .ref (G.2.1 80)]) rfl ?_
    refine g_i2l hC dL_ofReading_8 ?_
    refine n_last hC 80 aa_80 0 (show 0 < 1 by omega) dL_ofReading_9 ?_
    refine g_goto hC 21 dL_ofReading_10 (by decide) ?_
    refine g_iconst (v := nI 0) hC dL_ofReading_21 (by decide) ?_
    exact g_iret hC hr dL_ofReading_22 (Nat.le_of_ble_eq_true rfl) (Nat.le_of_ble_eq_true rfl) ⟨0, rfl, Or.inl ⟨rfl, x, J9, hp9, rfl⟩⟩

set_option maxRecDepth 100000 in
theorem m_L_due {l : Launch} {G : wG} (hl : l.stackTraces = false) (hG : wD G) (V : wV) (I : wI) (J : wJ) (nr n ns : Nat) (v2 : V 2 = nI nr) (v4 : V 4 = nI ns) (v5 : V 5 = nI n) (hw : wfC I nr n ns) (hz : ∀ r, I 28 r = 0 ∨ I 28 r = 1) (p0 : Int32) : vx_Met l yL_due (Cond.codeWith yL_due cL_due 4 (some .int) [(0, 8, 11, 19)] :: TT) { frames := 8, cells := 6, slots := 36, locals := 175 } (cP G [.ref (G.2.1 0), .int p0, .ref (G.2.1 80)] V I J) (cQ G (wQl (fun r V9 I9 J9 => tcIn p0 10 = 0 ∧ scr V I J V9 I9 J9 ∧ ∃ p, p < 10 ∧ p0 = nI p ∧ r = some (.long (sF (fj nr ns p I n).2.2 (V 0) (V 3) (fj nr ns p I n).1))) (wXs V I J (tcIn p0 10)))) (cX G noX) 6 36 (wA G) := by
  refine ctrX_of (rm := { frames := 8, cells := 6, slots := 36, locals := 175 }) hl hG (by decide) (Nat.le_of_ble_eq_true rfl) [(0, .ref (G.2.1 0)), (1, .int p0), (2, .ref (G.2.1 80))] rfl ?_
  intro K hC hKl hRm hr hT
  subst hKl
  have hC : Cx K G RL cL_due 4 := hC
  refine g_aload_n hC dL_due_0 rfl 2 rfl ?_
  refine g_iconst (v := nI 0) hC dL_due_1 (by decide) ?_
  refine g_aload_n hC dL_due_2 rfl 0 rfl ?_
  refine g_iload_n hC dL_due_3 rfl 1 rfl ?_
  refine g_callV hC [.int p0] 0 (m_X6_due hl hG V I J nr n ns v2 v4 v5 hw hz p0) rfl (by decide) rfl rfl rfl tw_643 tw_644 tw_645 tw_31 tw_646 pd_X6_due (by rw [hRm]; exact ⟨Nat.le_of_ble_eq_true rfl, Nat.le_of_ble_eq_true rfl⟩) (Nat.le_of_ble_eq_true rfl) (by rw [hRm]; exact ⟨Nat.le_of_ble_eq_true rfl, Nat.le_of_ble_eq_true rfl⟩) dL_due_4 (fun E9 V9 I9 J9 hx9 => ?_) (fun r9 V9 I9 J9 hp9 => ?_)
  · obtain ⟨hsc, k, hk, htc⟩ := hx9
    match k, hk with
    | 0, hk =>
      cases hk
      refine g_catch hC [] ⟨0, 8, 11, 19⟩ [] hT (List.mem_of_getElem? (i := 2) rfl) (fun z hz => absurd hz List.not_mem_nil) (by decide) (by decide) tw_449 (fun q9 => ?_)
      refine g_astore_n hC [(3, .ref q9), (0, .ref (G.2.1 0)), (1, .int p0), (2, .ref (G.2.1 80))] dL_due_11 rfl (by decide) rfl ?_
      refine g_iconst (v := nI 1) hC dL_due_12 (by decide) ?_
      exact g_iret hC hr dL_due_13 (Nat.le_of_ble_eq_true rfl) (Nat.le_of_ble_eq_true rfl) ⟨1, rfl, Or.inr ⟨by decide, by decide, ⟨hsc, htc⟩⟩⟩
    | k + 1, hk => cases hk
  · obtain ⟨x, hr9⟩ : ∃ x : Int64, r9 = some (.long x) := by
      obtain ⟨-, -, p, -, -, e⟩ := hp9
      exact ⟨_, e⟩
    subst hr9
    refine g_at rfl rfl (st2 := [.long x, .int (nI 0), .ref (G.2.1 80)]) rfl ?_
    refine n_last hC 80 aa_80 0 (show 0 < 1 by omega) dL_due_7 ?_
    refine g_goto hC 14 dL_due_8 (by decide) ?_
    refine g_iconst (v := nI 0) hC dL_due_14 (by decide) ?_
    exact g_iret hC hr dL_due_15 (Nat.le_of_ble_eq_true rfl) (Nat.le_of_ble_eq_true rfl) ⟨0, rfl, Or.inl ⟨rfl, x, J9, hp9, rfl⟩⟩

set_option maxRecDepth 100000 in
theorem m_L_billed {l : Launch} {G : wG} (hl : l.stackTraces = false) (hG : wD G) (V : wV) (I : wI) (J : wJ) (p0 : Int32) : vx_Met l yL_billed (Cond.codeWith yL_billed cL_billed 4 (some .int) [(0, 8, 11, 19)] :: TT) { frames := 8, cells := 6, slots := 36, locals := 133 } (cP G [.ref (G.2.1 0), .int p0, .ref (G.2.1 80)] V I J) (cQ G (wQl (fun r V9 I9 J9 => tcIn p0 10 = 0 ∧ V9 = V ∧ I9 = I ∧ J9 = J ∧ ∃ p, p < 10 ∧ p0 = nI p ∧ r = some (.long (J 31 p))) (wXc V I J (tcIn p0 10)))) (cX G noX) 6 36 (wA G) := by
  refine ctrX_of (rm := { frames := 8, cells := 6, slots := 36, locals := 133 }) hl hG (by decide) (Nat.le_of_ble_eq_true rfl) [(0, .ref (G.2.1 0)), (1, .int p0), (2, .ref (G.2.1 80))] rfl ?_
  intro K hC hKl hRm hr hT
  subst hKl
  have hC : Cx K G RL cL_billed 4 := hC
  refine g_aload_n hC dL_billed_0 rfl 2 rfl ?_
  refine g_iconst (v := nI 0) hC dL_billed_1 (by decide) ?_
  refine g_aload_n hC dL_billed_2 rfl 0 rfl ?_
  refine g_iload_n hC dL_billed_3 rfl 1 rfl ?_
  refine g_callV hC [.int p0] 0 (m_X6_billed hl hG V I J p0) rfl (by decide) rfl rfl rfl tw_650 tw_651 tw_652 tw_31 tw_653 pd_X6_billed (by rw [hRm]; exact ⟨Nat.le_of_ble_eq_true rfl, Nat.le_of_ble_eq_true rfl⟩) (Nat.le_of_ble_eq_true rfl) (by rw [hRm]; exact ⟨Nat.le_of_ble_eq_true rfl, Nat.le_of_ble_eq_true rfl⟩) dL_billed_4 (fun E9 V9 I9 J9 hx9 => ?_) (fun r9 V9 I9 J9 hp9 => ?_)
  · obtain ⟨hV9, hI9, hJ9, k, hk, htc⟩ := hx9
    match k, hk with
    | 0, hk =>
      cases hk
      refine g_catch hC [] ⟨0, 8, 11, 19⟩ [] hT (List.mem_of_getElem? (i := 2) rfl) (fun z hz => absurd hz List.not_mem_nil) (by decide) (by decide) tw_449 (fun q9 => ?_)
      refine g_astore_n hC [(3, .ref q9), (0, .ref (G.2.1 0)), (1, .int p0), (2, .ref (G.2.1 80))] dL_billed_11 rfl (by decide) rfl ?_
      refine g_iconst (v := nI 1) hC dL_billed_12 (by decide) ?_
      exact g_iret hC hr dL_billed_13 (Nat.le_of_ble_eq_true rfl) (Nat.le_of_ble_eq_true rfl) ⟨1, rfl, Or.inr ⟨by decide, by decide, ⟨hV9, hI9, hJ9, htc⟩⟩⟩
    | k + 1, hk => cases hk
  · obtain ⟨x, hr9⟩ : ∃ x : Int64, r9 = some (.long x) := by
      obtain ⟨-, -, -, -, p, -, -, e⟩ := hp9
      exact ⟨_, e⟩
    subst hr9
    refine g_at rfl rfl (st2 := [.long x, .int (nI 0), .ref (G.2.1 80)]) rfl ?_
    refine n_last hC 80 aa_80 0 (show 0 < 1 by omega) dL_billed_7 ?_
    refine g_goto hC 14 dL_billed_8 (by decide) ?_
    refine g_iconst (v := nI 0) hC dL_billed_14 (by decide) ?_
    exact g_iret hC hr dL_billed_15 (Nat.le_of_ble_eq_true rfl) (Nat.le_of_ble_eq_true rfl) ⟨0, rfl, Or.inl ⟨rfl, x, J9, hp9, rfl⟩⟩

set_option maxRecDepth 100000 in
theorem m_L_wallet {l : Launch} {G : wG} (hl : l.stackTraces = false) (hG : wD G) (V : wV) (I : wI) (J : wJ) (p0 : Int32) : vx_Met l yL_wallet (Cond.codeWith yL_wallet cL_wallet 4 (some .int) [(0, 8, 11, 19)] :: TT) { frames := 8, cells := 6, slots := 36, locals := 133 } (cP G [.ref (G.2.1 0), .int p0, .ref (G.2.1 80)] V I J) (cQ G (wQl (fun r V9 I9 J9 => tcIn p0 6 = 0 ∧ V9 = V ∧ I9 = I ∧ J9 = J ∧ ∃ p, p < 6 ∧ p0 = nI p ∧ r = some (.long (J 29 p))) (wXc V I J (tcIn p0 6)))) (cX G noX) 6 36 (wA G) := by
  refine ctrX_of (rm := { frames := 8, cells := 6, slots := 36, locals := 133 }) hl hG (by decide) (Nat.le_of_ble_eq_true rfl) [(0, .ref (G.2.1 0)), (1, .int p0), (2, .ref (G.2.1 80))] rfl ?_
  intro K hC hKl hRm hr hT
  subst hKl
  have hC : Cx K G RL cL_wallet 4 := hC
  refine g_aload_n hC dL_wallet_0 rfl 2 rfl ?_
  refine g_iconst (v := nI 0) hC dL_wallet_1 (by decide) ?_
  refine g_aload_n hC dL_wallet_2 rfl 0 rfl ?_
  refine g_iload_n hC dL_wallet_3 rfl 1 rfl ?_
  refine g_callV hC [.int p0] 0 (m_X6_wallet hl hG V I J p0) rfl (by decide) rfl rfl rfl tw_657 tw_658 tw_659 tw_31 tw_660 pd_X6_wallet (by rw [hRm]; exact ⟨Nat.le_of_ble_eq_true rfl, Nat.le_of_ble_eq_true rfl⟩) (Nat.le_of_ble_eq_true rfl) (by rw [hRm]; exact ⟨Nat.le_of_ble_eq_true rfl, Nat.le_of_ble_eq_true rfl⟩) dL_wallet_4 (fun E9 V9 I9 J9 hx9 => ?_) (fun r9 V9 I9 J9 hp9 => ?_)
  · obtain ⟨hV9, hI9, hJ9, k, hk, htc⟩ := hx9
    match k, hk with
    | 0, hk =>
      cases hk
      refine g_catch hC [] ⟨0, 8, 11, 19⟩ [] hT (List.mem_of_getElem? (i := 2) rfl) (fun z hz => absurd hz List.not_mem_nil) (by decide) (by decide) tw_449 (fun q9 => ?_)
      refine g_astore_n hC [(3, .ref q9), (0, .ref (G.2.1 0)), (1, .int p0), (2, .ref (G.2.1 80))] dL_wallet_11 rfl (by decide) rfl ?_
      refine g_iconst (v := nI 1) hC dL_wallet_12 (by decide) ?_
      exact g_iret hC hr dL_wallet_13 (Nat.le_of_ble_eq_true rfl) (Nat.le_of_ble_eq_true rfl) ⟨1, rfl, Or.inr ⟨by decide, by decide, ⟨hV9, hI9, hJ9, htc⟩⟩⟩
    | k + 1, hk => cases hk
  · obtain ⟨x, hr9⟩ : ∃ x : Int64, r9 = some (.long x) := by
      obtain ⟨-, -, -, -, p, -, -, e⟩ := hp9
      exact ⟨_, e⟩
    subst hr9
    refine g_at rfl rfl (st2 := [.long x, .int (nI 0), .ref (G.2.1 80)]) rfl ?_
    refine n_last hC 80 aa_80 0 (show 0 < 1 by omega) dL_wallet_7 ?_
    refine g_goto hC 14 dL_wallet_8 (by decide) ?_
    refine g_iconst (v := nI 0) hC dL_wallet_14 (by decide) ?_
    exact g_iret hC hr dL_wallet_15 (Nat.le_of_ble_eq_true rfl) (Nat.le_of_ble_eq_true rfl) ⟨0, rfl, Or.inl ⟨rfl, x, J9, hp9, rfl⟩⟩

set_option maxRecDepth 100000 in
theorem m_L_own {l : Launch} {G : wG} (hl : l.stackTraces = false) (hG : wD G) (V : wV) (I : wI) (J : wJ) (p0 : Int32) : vx_Met l yL_own (Cond.codeWith yL_own cL_own 4 (some .int) [(0, 8, 11, 19)] :: TT) { frames := 8, cells := 6, slots := 36, locals := 133 } (cP G [.ref (G.2.1 0), .int p0, .ref (G.2.1 80)] V I J) (cQ G (wQl (fun r V9 I9 J9 => tcIn p0 10 = 0 ∧ V9 = V ∧ I9 = I ∧ J9 = J ∧ ∃ p, p < 10 ∧ p0 = nI p ∧ r = some (.long (J 30 p))) (wXc V I J (tcIn p0 10)))) (cX G noX) 6 36 (wA G) := by
  refine ctrX_of (rm := { frames := 8, cells := 6, slots := 36, locals := 133 }) hl hG (by decide) (Nat.le_of_ble_eq_true rfl) [(0, .ref (G.2.1 0)), (1, .int p0), (2, .ref (G.2.1 80))] rfl ?_
  intro K hC hKl hRm hr hT
  subst hKl
  have hC : Cx K G RL cL_own 4 := hC
  refine g_aload_n hC dL_own_0 rfl 2 rfl ?_
  refine g_iconst (v := nI 0) hC dL_own_1 (by decide) ?_
  refine g_aload_n hC dL_own_2 rfl 0 rfl ?_
  refine g_iload_n hC dL_own_3 rfl 1 rfl ?_
  refine g_callV hC [.int p0] 0 (m_X6_own hl hG V I J p0) rfl (by decide) rfl rfl rfl tw_664 tw_665 tw_666 tw_31 tw_667 pd_X6_own (by rw [hRm]; exact ⟨Nat.le_of_ble_eq_true rfl, Nat.le_of_ble_eq_true rfl⟩) (Nat.le_of_ble_eq_true rfl) (by rw [hRm]; exact ⟨Nat.le_of_ble_eq_true rfl, Nat.le_of_ble_eq_true rfl⟩) dL_own_4 (fun E9 V9 I9 J9 hx9 => ?_) (fun r9 V9 I9 J9 hp9 => ?_)
  · obtain ⟨hV9, hI9, hJ9, k, hk, htc⟩ := hx9
    match k, hk with
    | 0, hk =>
      cases hk
      refine g_catch hC [] ⟨0, 8, 11, 19⟩ [] hT (List.mem_of_getElem? (i := 2) rfl) (fun z hz => absurd hz List.not_mem_nil) (by decide) (by decide) tw_449 (fun q9 => ?_)
      refine g_astore_n hC [(3, .ref q9), (0, .ref (G.2.1 0)), (1, .int p0), (2, .ref (G.2.1 80))] dL_own_11 rfl (by decide) rfl ?_
      refine g_iconst (v := nI 1) hC dL_own_12 (by decide) ?_
      exact g_iret hC hr dL_own_13 (Nat.le_of_ble_eq_true rfl) (Nat.le_of_ble_eq_true rfl) ⟨1, rfl, Or.inr ⟨by decide, by decide, ⟨hV9, hI9, hJ9, htc⟩⟩⟩
    | k + 1, hk => cases hk
  · obtain ⟨x, hr9⟩ : ∃ x : Int64, r9 = some (.long x) := by
      obtain ⟨-, -, -, -, p, -, -, e⟩ := hp9
      exact ⟨_, e⟩
    subst hr9
    refine g_at rfl rfl (st2 := [.long x, .int (nI 0), .ref (G.2.1 80)]) rfl ?_
    refine n_last hC 80 aa_80 0 (show 0 < 1 by omega) dL_own_7 ?_
    refine g_goto hC 14 dL_own_8 (by decide) ?_
    refine g_iconst (v := nI 0) hC dL_own_14 (by decide) ?_
    exact g_iret hC hr dL_own_15 (Nat.le_of_ble_eq_true rfl) (Nat.le_of_ble_eq_true rfl) ⟨0, rfl, Or.inl ⟨rfl, x, J9, hp9, rfl⟩⟩

set_option maxRecDepth 100000 in
theorem m_L_share {l : Launch} {G : wG} (hl : l.stackTraces = false) (hG : wD G) (V : wV) (I : wI) (J : wJ) (nr n ns : Nat) (v2 : V 2 = nI nr) (v4 : V 4 = nI ns) (v5 : V 5 = nI n) (hw : wfC I nr n ns) (hz : ∀ r, I 28 r = 0 ∨ I 28 r = 1) (p0 p1 : Int32) : vx_Met l yL_share (Cond.codeWith yL_share cL_share 5 (some .int) [(0, 9, 12, 19)] :: TT) { frames := 8, cells := 6, slots := 36, locals := 200 } (cP G [.ref (G.2.1 0), .int p0, .int p1, .ref (G.2.1 80)] V I J) (cQ G (wQl (fun r V9 I9 J9 => tcIn p0 4 = 0 ∧ scr V I J V9 I9 J9 ∧ ∃ o, o < 4 ∧ p0 = nI o ∧ r = some (.long (if p1 = 0 then J 32 o else (dO nr ns n o V I 10).1))) (wXs V I J (tcIn p0 4)))) (cX G noX) 6 36 (wA G) := by
  refine ctrX_of (rm := { frames := 8, cells := 6, slots := 36, locals := 200 }) hl hG (by decide) (Nat.le_of_ble_eq_true rfl) [(0, .ref (G.2.1 0)), (1, .int p0), (2, .int p1), (3, .ref (G.2.1 80))] rfl ?_
  intro K hC hKl hRm hr hT
  subst hKl
  have hC : Cx K G RL cL_share 5 := hC
  refine g_aload_n hC dL_share_0 rfl 3 rfl ?_
  refine g_iconst (v := nI 0) hC dL_share_1 (by decide) ?_
  refine g_aload_n hC dL_share_2 rfl 0 rfl ?_
  refine g_iload_n hC dL_share_3 rfl 1 rfl ?_
  refine g_iload_n hC dL_share_4 rfl 2 rfl ?_
  refine g_callV hC [.int p0, .int p1] 0 (m_X6_share hl hG V I J nr n ns v2 v4 v5 hw hz p0 p1) rfl (by decide) rfl rfl rfl tw_671 tw_672 tw_673 tw_31 tw_674 pd_X6_share (by rw [hRm]; exact ⟨Nat.le_of_ble_eq_true rfl, Nat.le_of_ble_eq_true rfl⟩) (Nat.le_of_ble_eq_true rfl) (by rw [hRm]; exact ⟨Nat.le_of_ble_eq_true rfl, Nat.le_of_ble_eq_true rfl⟩) dL_share_5 (fun E9 V9 I9 J9 hx9 => ?_) (fun r9 V9 I9 J9 hp9 => ?_)
  · obtain ⟨hsc, k, hk, htc⟩ := hx9
    match k, hk with
    | 0, hk =>
      cases hk
      refine g_catch hC [] ⟨0, 9, 12, 19⟩ [] hT (List.mem_of_getElem? (i := 2) rfl) (fun z hz => absurd hz List.not_mem_nil) (by decide) (by decide) tw_449 (fun q9 => ?_)
      refine g_astore hC [(4, .ref q9), (0, .ref (G.2.1 0)), (1, .int p0), (2, .int p1), (3, .ref (G.2.1 80))] dL_share_12 (by decide) rfl ?_
      refine g_iconst (v := nI 1) hC dL_share_14 (by decide) ?_
      exact g_iret hC hr dL_share_15 (Nat.le_of_ble_eq_true rfl) (Nat.le_of_ble_eq_true rfl) ⟨1, rfl, Or.inr ⟨by decide, by decide, ⟨hsc, htc⟩⟩⟩
    | k + 1, hk => cases hk
  · obtain ⟨x, hr9⟩ : ∃ x : Int64, r9 = some (.long x) := by
      obtain ⟨-, -, o, -, -, e⟩ := hp9
      exact ⟨_, e⟩
    subst hr9
    refine g_at rfl rfl (st2 := [.long x, .int (nI 0), .ref (G.2.1 80)]) rfl ?_
    refine n_last hC 80 aa_80 0 (show 0 < 1 by omega) dL_share_8 ?_
    refine g_goto hC 16 dL_share_9 (by decide) ?_
    refine g_iconst (v := nI 0) hC dL_share_16 (by decide) ?_
    exact g_iret hC hr dL_share_17 (Nat.le_of_ble_eq_true rfl) (Nat.le_of_ble_eq_true rfl) ⟨0, rfl, Or.inl ⟨rfl, x, J9, hp9, rfl⟩⟩
