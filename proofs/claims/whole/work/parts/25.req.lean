set_option maxRecDepth 100000 in
theorem m_X6_requireGate {l : Launch} {G : wG} (hl : l.stackTraces = false) (hG : wD G) (V : wV) (I : wI) (J : wJ) (ng : Nat) (p1 : Int32) (v1 : V 1 = nI ng) : Ctr l yX6_requireGate cX6_requireGate 2 none { frames := 6, cells := 1, slots := 6, locals := 90 } G [.ref (G.2.1 0), .int p1] V I J (pB V I J (inB p1 ng = true)) (xS V I J xIOB (inB p1 ng = false)) := by
  refine ctr_of hl hG (by decide) (Nat.le_of_ble_eq_true rfl) [(0, .ref (G.2.1 0)), (1, .int p1)] rfl ?_
  intro K hC hKl hRm hr hT
  subst hKl
  have hC : Cx K G RX6 cX6_requireGate 2 := hC
  refine g_iload_n hC dX6_requireGate_0 rfl 1 rfl ?_
  refine g_if_lt hC 15 dX6_requireGate_1 (by decide) (fun c_1 => ?_) (fun c_1 => ?_)
  · exact g_th_IOB hC hT 234 (List.mem_of_getElem? (i := 1) rfl) dX6_requireGate_15 dX6_requireGate_18 dX6_requireGate_19 dX6_requireGate_21 dX6_requireGate_24 (by rw [hRm]; decide) (by rw [hRm]; exact Nat.le_of_ble_eq_true rfl) (by rw [hRm]; exact Nat.le_of_ble_eq_true rfl) (by rw [hRm]; exact Nat.le_of_ble_eq_true rfl) (Nat.le_of_ble_eq_true rfl) (Nat.le_of_ble_eq_true rfl) ⟨rfl, rfl, rfl, rfl, inB_f (by first | exact Or.inl c_1 | exact Or.inr c_12)⟩
  · refine g_iload_n hC dX6_requireGate_4 rfl 1 rfl ?_
    refine g_aload_n hC dX6_requireGate_5 rfl 0 rfl ?_
    refine gf_X6_10 hC dX6_requireGate_6 ?_
    refine gf_X6_55 hC dX6_requireGate_9 ?_
    refine g_eqI (x' := nI ng) (by rw [v1]) ?_
    refine g_icmp_lt hC 25 dX6_requireGate_12 (by decide) (fun c_12 => ?_) (fun c_12 => ?_)
    · exact g_vret hC hr dX6_requireGate_25 (Nat.le_of_ble_eq_true rfl) (Nat.le_of_ble_eq_true rfl) ⟨⟨rfl, rfl, rfl, rfl⟩, inB_t c_1 c_12⟩
    · exact g_th_IOB hC hT 234 (List.mem_of_getElem? (i := 1) rfl) dX6_requireGate_15 dX6_requireGate_18 dX6_requireGate_19 dX6_requireGate_21 dX6_requireGate_24 (by rw [hRm]; decide) (by rw [hRm]; exact Nat.le_of_ble_eq_true rfl) (by rw [hRm]; exact Nat.le_of_ble_eq_true rfl) (by rw [hRm]; exact Nat.le_of_ble_eq_true rfl) (Nat.le_of_ble_eq_true rfl) (Nat.le_of_ble_eq_true rfl) ⟨rfl, rfl, rfl, rfl, inB_f (by first | exact Or.inl c_1 | exact Or.inr c_12)⟩

set_option maxRecDepth 100000 in
theorem m_X6_requireReading {l : Launch} {G : wG} (hl : l.stackTraces = false) (hG : wD G) (V : wV) (I : wI) (J : wJ) (n : Nat) (p1 : Int32) (v5 : V 5 = nI n) : Ctr l yX6_requireReading cX6_requireReading 2 none { frames := 6, cells := 1, slots := 6, locals := 90 } G [.ref (G.2.1 0), .int p1] V I J (pB V I J (inB p1 n = true)) (xS V I J xIOB (inB p1 n = false)) := by
  refine ctr_of hl hG (by decide) (Nat.le_of_ble_eq_true rfl) [(0, .ref (G.2.1 0)), (1, .int p1)] rfl ?_
  intro K hC hKl hRm hr hT
  subst hKl
  have hC : Cx K G RX6 cX6_requireReading 2 := hC
  refine g_iload_n hC dX6_requireReading_0 rfl 1 rfl ?_
  refine g_if_lt hC 15 dX6_requireReading_1 (by decide) (fun c_1 => ?_) (fun c_1 => ?_)
  · exact g_th_IOB hC hT 236 (List.mem_of_getElem? (i := 9) rfl) dX6_requireReading_15 dX6_requireReading_18 dX6_requireReading_19 dX6_requireReading_21 dX6_requireReading_24 (by rw [hRm]; decide) (by rw [hRm]; exact Nat.le_of_ble_eq_true rfl) (by rw [hRm]; exact Nat.le_of_ble_eq_true rfl) (by rw [hRm]; exact Nat.le_of_ble_eq_true rfl) (Nat.le_of_ble_eq_true rfl) (Nat.le_of_ble_eq_true rfl) ⟨rfl, rfl, rfl, rfl, inB_f (by first | exact Or.inl c_1 | exact Or.inr c_12)⟩
  · refine g_iload_n hC dX6_requireReading_4 rfl 1 rfl ?_
    refine g_aload_n hC dX6_requireReading_5 rfl 0 rfl ?_
    refine gf_X6_33 hC dX6_requireReading_6 ?_
    refine gf_X6_127 hC dX6_requireReading_9 ?_
    refine g_eqI (x' := nI n) (by rw [v5]) ?_
    refine g_icmp_lt hC 25 dX6_requireReading_12 (by decide) (fun c_12 => ?_) (fun c_12 => ?_)
    · exact g_vret hC hr dX6_requireReading_25 (Nat.le_of_ble_eq_true rfl) (Nat.le_of_ble_eq_true rfl) ⟨⟨rfl, rfl, rfl, rfl⟩, inB_t c_1 c_12⟩
    · exact g_th_IOB hC hT 236 (List.mem_of_getElem? (i := 9) rfl) dX6_requireReading_15 dX6_requireReading_18 dX6_requireReading_19 dX6_requireReading_21 dX6_requireReading_24 (by rw [hRm]; decide) (by rw [hRm]; exact Nat.le_of_ble_eq_true rfl) (by rw [hRm]; exact Nat.le_of_ble_eq_true rfl) (by rw [hRm]; exact Nat.le_of_ble_eq_true rfl) (Nat.le_of_ble_eq_true rfl) (Nat.le_of_ble_eq_true rfl) ⟨rfl, rfl, rfl, rfl, inB_f (by first | exact Or.inl c_1 | exact Or.inr c_12)⟩

set_option maxRecDepth 100000 in
theorem m_X6_requirePlate {l : Launch} {G : wG} (hl : l.stackTraces = false) (hG : wD G) (V : wV) (I : wI) (J : wJ) (p1 : Int32) : Ctr l yX6_requirePlate cX6_requirePlate 1 none { frames := 6, cells := 1, slots := 6, locals := 90 } G [.int p1] V I J (pB V I J (inB p1 10 = true)) (xS V I J xIOB (inB p1 10 = false)) := by
  refine ctr_of hl hG (by decide) (Nat.le_of_ble_eq_true rfl) [(0, .int p1)] rfl ?_
  intro K hC hKl hRm hr hT
  subst hKl
  have hC : Cx K G RX6 cX6_requirePlate 1 := hC
  refine g_iload_n hC dX6_requirePlate_0 rfl 0 rfl ?_
  refine g_if_lt hC 10 dX6_requirePlate_1 (by decide) (fun c_1 => ?_) (fun c_1 => ?_)
  · exact g_th_IOB hC hT 238 (List.mem_of_getElem? (i := 5) rfl) dX6_requirePlate_10 dX6_requirePlate_13 dX6_requirePlate_14 dX6_requirePlate_16 dX6_requirePlate_19 (by rw [hRm]; decide) (by rw [hRm]; exact Nat.le_of_ble_eq_true rfl) (by rw [hRm]; exact Nat.le_of_ble_eq_true rfl) (by rw [hRm]; exact Nat.le_of_ble_eq_true rfl) (Nat.le_of_ble_eq_true rfl) (Nat.le_of_ble_eq_true rfl) ⟨rfl, rfl, rfl, rfl, inB_f (by first | exact Or.inl c_1 | exact Or.inr c_7)⟩
  · refine g_iload_n hC dX6_requirePlate_4 rfl 0 rfl ?_
    refine g_bipush (v := nI 10) hC dX6_requirePlate_5 (by decide) ?_
    refine g_icmp_lt hC 20 dX6_requirePlate_7 (by decide) (fun c_7 => ?_) (fun c_7 => ?_)
    · exact g_vret hC hr dX6_requirePlate_20 (Nat.le_of_ble_eq_true rfl) (Nat.le_of_ble_eq_true rfl) ⟨⟨rfl, rfl, rfl, rfl⟩, inB_t c_1 c_7⟩
    · exact g_th_IOB hC hT 238 (List.mem_of_getElem? (i := 5) rfl) dX6_requirePlate_10 dX6_requirePlate_13 dX6_requirePlate_14 dX6_requirePlate_16 dX6_requirePlate_19 (by rw [hRm]; decide) (by rw [hRm]; exact Nat.le_of_ble_eq_true rfl) (by rw [hRm]; exact Nat.le_of_ble_eq_true rfl) (by rw [hRm]; exact Nat.le_of_ble_eq_true rfl) (Nat.le_of_ble_eq_true rfl) (Nat.le_of_ble_eq_true rfl) ⟨rfl, rfl, rfl, rfl, inB_f (by first | exact Or.inl c_1 | exact Or.inr c_7)⟩

set_option maxRecDepth 100000 in
theorem m_X6_requireHolder {l : Launch} {G : wG} (hl : l.stackTraces = false) (hG : wD G) (V : wV) (I : wI) (J : wJ) (p1 : Int32) : Ctr l yX6_requireHolder cX6_requireHolder 1 none { frames := 6, cells := 1, slots := 6, locals := 90 } G [.int p1] V I J (pB V I J (inB p1 6 = true)) (xS V I J xIOB (inB p1 6 = false)) := by
  refine ctr_of hl hG (by decide) (Nat.le_of_ble_eq_true rfl) [(0, .int p1)] rfl ?_
  intro K hC hKl hRm hr hT
  subst hKl
  have hC : Cx K G RX6 cX6_requireHolder 1 := hC
  refine g_iload_n hC dX6_requireHolder_0 rfl 0 rfl ?_
  refine g_if_lt hC 10 dX6_requireHolder_1 (by decide) (fun c_1 => ?_) (fun c_1 => ?_)
  · exact g_th_IOB hC hT 240 (List.mem_of_getElem? (i := 6) rfl) dX6_requireHolder_10 dX6_requireHolder_13 dX6_requireHolder_14 dX6_requireHolder_16 dX6_requireHolder_19 (by rw [hRm]; decide) (by rw [hRm]; exact Nat.le_of_ble_eq_true rfl) (by rw [hRm]; exact Nat.le_of_ble_eq_true rfl) (by rw [hRm]; exact Nat.le_of_ble_eq_true rfl) (Nat.le_of_ble_eq_true rfl) (Nat.le_of_ble_eq_true rfl) ⟨rfl, rfl, rfl, rfl, inB_f (by first | exact Or.inl c_1 | exact Or.inr c_7)⟩
  · refine g_iload_n hC dX6_requireHolder_4 rfl 0 rfl ?_
    refine g_bipush (v := nI 6) hC dX6_requireHolder_5 (by decide) ?_
    refine g_icmp_lt hC 20 dX6_requireHolder_7 (by decide) (fun c_7 => ?_) (fun c_7 => ?_)
    · exact g_vret hC hr dX6_requireHolder_20 (Nat.le_of_ble_eq_true rfl) (Nat.le_of_ble_eq_true rfl) ⟨⟨rfl, rfl, rfl, rfl⟩, inB_t c_1 c_7⟩
    · exact g_th_IOB hC hT 240 (List.mem_of_getElem? (i := 6) rfl) dX6_requireHolder_10 dX6_requireHolder_13 dX6_requireHolder_14 dX6_requireHolder_16 dX6_requireHolder_19 (by rw [hRm]; decide) (by rw [hRm]; exact Nat.le_of_ble_eq_true rfl) (by rw [hRm]; exact Nat.le_of_ble_eq_true rfl) (by rw [hRm]; exact Nat.le_of_ble_eq_true rfl) (Nat.le_of_ble_eq_true rfl) (Nat.le_of_ble_eq_true rfl) ⟨rfl, rfl, rfl, rfl, inB_f (by first | exact Or.inl c_1 | exact Or.inr c_7)⟩

set_option maxRecDepth 100000 in
theorem m_X6_requireRange {l : Launch} {G : wG} (hl : l.stackTraces = false) (hG : wD G) (V : wV) (I : wI) (J : wJ) (p1 p2 p3 : Int32) : Ctr l yX6_requireRange cX6_requireRange 3 none { frames := 6, cells := 1, slots := 6, locals := 90 } G [.int p1, .int p2, .int p3] V I J (pB V I J (rgB p1 p2 p3 = true)) (xS V I J xIAE (rgB p1 p2 p3 = false)) := by
  refine ctr_of hl hG (by decide) (Nat.le_of_ble_eq_true rfl) [(0, .int p1), (1, .int p2), (2, .int p3)] rfl ?_
  intro K hC hKl hRm hr hT
  subst hKl
  have hC : Cx K G RX6 cX6_requireRange 3 := hC
  refine g_iload_n hC dX6_requireRange_0 rfl 0 rfl ?_
  refine g_iload_n hC dX6_requireRange_1 rfl 1 rfl ?_
  refine g_icmp_lt hC 10 dX6_requireRange_2 (by decide) (fun c_2 => ?_) (fun c_2 => ?_)
  · exact g_th_IAE hC hT 242 (List.mem_of_getElem? (i := 2) rfl) dX6_requireRange_10 dX6_requireRange_13 dX6_requireRange_14 dX6_requireRange_16 dX6_requireRange_19 (by rw [hRm]; decide) (by rw [hRm]; exact Nat.le_of_ble_eq_true rfl) (by rw [hRm]; exact Nat.le_of_ble_eq_true rfl) (by rw [hRm]; exact Nat.le_of_ble_eq_true rfl) (Nat.le_of_ble_eq_true rfl) (Nat.le_of_ble_eq_true rfl) ⟨rfl, rfl, rfl, rfl, rgB_f (by first | exact Or.inl c_2 | exact Or.inr c_7)⟩
  · refine g_iload_n hC dX6_requireRange_5 rfl 0 rfl ?_
    refine g_iload_n hC dX6_requireRange_6 rfl 2 rfl ?_
    refine g_icmp_le hC 20 dX6_requireRange_7 (by decide) (fun c_7 => ?_) (fun c_7 => ?_)
    · exact g_vret hC hr dX6_requireRange_20 (Nat.le_of_ble_eq_true rfl) (Nat.le_of_ble_eq_true rfl) ⟨⟨rfl, rfl, rfl, rfl⟩, rgB_t c_2 c_7⟩
    · exact g_th_IAE hC hT 242 (List.mem_of_getElem? (i := 2) rfl) dX6_requireRange_10 dX6_requireRange_13 dX6_requireRange_14 dX6_requireRange_16 dX6_requireRange_19 (by rw [hRm]; decide) (by rw [hRm]; exact Nat.le_of_ble_eq_true rfl) (by rw [hRm]; exact Nat.le_of_ble_eq_true rfl) (by rw [hRm]; exact Nat.le_of_ble_eq_true rfl) (Nat.le_of_ble_eq_true rfl) (Nat.le_of_ble_eq_true rfl) ⟨rfl, rfl, rfl, rfl, rgB_f (by first | exact Or.inl c_2 | exact Or.inr c_7)⟩
