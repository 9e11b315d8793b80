set_option maxRecDepth 100000 in
theorem m_X6_placeReading0 {l : Launch} {G : wG} (hl : l.stackTraces = false) (hG : wD G) (V : wV) (I : wI) (J : wJ) (nr n ns : Nat) (v2 : V 2 = nI nr) (v4 : V 4 = nI ns) (v5 : V 5 = nI n) (hw : wfC I nr n ns) (c r : Nat) (v6 : V 6 = nI c) (hc : c < 100) (hr9 : r < n) : Ctr l yX6_placeReading cX6_placeReading 5 (some .int) { frames := 4, cells := 0, slots := 0, locals := 106 } G [.ref (G.2.1 0), .int (nI r), .int ((-1))] V I J (pU (some (.int (nI r))) (upd V 6 (nI (c + 1))) (bgI I c r (I 21 r)) J) (noX) := by
  refine ctr_of hl hG (by decide) (Nat.le_of_ble_eq_true rfl) [(0, .ref (G.2.1 0)), (1, .int (nI r)), (2, .int ((-1)))] rfl ?_
  intro K hC hKl hRm hr hT
  subst hKl
  have hC : Cx K G RX6 cX6_placeReading 5 := hC
  obtain ⟨w1, w2, w3, w4, w5, w6, w7⟩ := id hw
  have w24 := w1.1
  refine g_aload_n hC dX6_placeReading_0 rfl 0 rfl ?_
  refine gf_X6_33 hC dX6_placeReading_1 ?_
  refine gf_X6_211 hC dX6_placeReading_4 ?_
  refine g_iload_n hC dX6_placeReading_7 rfl 1 rfl ?_
  refine n_iald hC 21 aa_21 r (show r < 100 by omega) dX6_placeReading_8 ?_
  refine g_istore_n hC [(3, .int (I 21 r)), (0, .ref (G.2.1 0)), (1, .int (nI r)), (2, .int ((-1)))] dX6_placeReading_9 rfl (by decide) rfl ?_
  refine g_iload_n hC dX6_placeReading_10 rfl 3 rfl ?_
  refine g_iconst (v := (-1)) hC dX6_placeReading_11 (by decide) ?_
  refine g_icmp_ne hC 26 dX6_placeReading_12 (by decide) (fun c_12 => ?_) (fun c_12 => ?_)
  · exact absurd c_12 (by decide)
  · refine g_aload_n hC dX6_placeReading_15 rfl 1 rfl ?_
    refine gf_X6_40 hC dX6_placeReading_16 ?_
    refine g_iload_n hC dX6_placeReading_19 rfl 2 rfl ?_
    refine g_iload_n hC dX6_placeReading_20 rfl 0 rfl ?_
    refine g_cV hC [.int (nI r), .int (I 21 r)] 5 (m_X1_begin hl hG V I J c r (I 21 r) v6 hc (by omega)) rfl (st2 := []) rfl (by decide) rfl rfl rfl tw_271 tw_272 tw_273 tw_36 tw_274 pd_X1_begin ⟨rfl, rfl⟩ (by rw [hRm]; exact ⟨Nat.le_of_ble_eq_true rfl, Nat.le_of_ble_eq_true rfl, Nat.le_of_ble_eq_true rfl, Nat.le_of_ble_eq_true rfl⟩) (Nat.le_of_ble_eq_true rfl) dX6_placeReading_21 ?_
    refine g_iload_n hC dX6_placeReading_24 rfl 2 rfl ?_
    exact g_iret hC hr dX6_placeReading_25 (Nat.le_of_ble_eq_true rfl) (Nat.le_of_ble_eq_true rfl) ⟨rfl, rfl, rfl, rfl⟩

set_option maxRecDepth 100000 in
theorem m_X6_placeReading {l : Launch} {G : wG} (hl : l.stackTraces = false) (hG : wD G) (V : wV) (I : wI) (J : wJ) (nr n ns : Nat) (v2 : V 2 = nI nr) (v4 : V 4 = nI ns) (v5 : V 5 = nI n) (hw : wfC I nr n ns) (c r : Nat) (v6 : V 6 = nI c) (hc : c < 100) (hr9 : r < n) (a : Nat) (ha9 : a < n) (hc1 : 1 ≤ c) (hj : I 27 a = nI (c - 1)) : Ctr l yX6_placeReading cX6_placeReading 5 (some .int) { frames := 4, cells := 0, slots := 0, locals := 106 } G [.ref (G.2.1 0), .int (nI r), .int (nI a)] V I J (pU (some (.int (ahv (plc nr ns c (some a) I r).2.1))) (upd V 6 (nI (plc nr ns c (some a) I r).1)) (plc nr ns c (some a) I r).2.2 J) (noX) := by
  refine ctr_of hl hG (by decide) (Nat.le_of_ble_eq_true rfl) [(0, .ref (G.2.1 0)), (1, .int (nI r)), (2, .int (nI a))] rfl ?_
  intro K hC hKl hRm hr hT
  subst hKl
  have hC : Cx K G RX6 cX6_placeReading 5 := hC
  obtain ⟨w1, w2, w3, w4, w5, w6, w7⟩ := id hw
  have w24 := w1.1
  refine g_aload_n hC dX6_placeReading_0 rfl 0 rfl ?_
  refine gf_X6_33 hC dX6_placeReading_1 ?_
  refine gf_X6_211 hC dX6_placeReading_4 ?_
  refine g_iload_n hC dX6_placeReading_7 rfl 1 rfl ?_
  refine n_iald hC 21 aa_21 r (show r < 100 by omega) dX6_placeReading_8 ?_
  refine g_istore_n hC [(3, .int (I 21 r)), (0, .ref (G.2.1 0)), (1, .int (nI r)), (2, .int (nI a))] dX6_placeReading_9 rfl (by decide) rfl ?_
  refine g_iload_n hC dX6_placeReading_10 rfl 3 rfl ?_
  refine g_iconst (v := (-1)) hC dX6_placeReading_11 (by decide) ?_
  refine g_icmp_ne hC 26 dX6_placeReading_12 (by decide) (fun c_12 => ?_) (fun c_12 => ?_)
  · refine g_aload_n hC dX6_placeReading_26 rfl 1 rfl ?_
    refine gf_X6_40 hC dX6_placeReading_27 ?_
    refine gf_X6_257 hC dX6_placeReading_30 ?_
    refine g_iload_n hC dX6_placeReading_33 rfl 3 rfl ?_
    refine n_iald hC 27 aa_27 a (show a < 100 by omega) dX6_placeReading_34 ?_
    refine g_eqI (x' := nI (c - 1)) hj ?_
    refine g_istore hC [(4, .int (nI (c - 1))), (3, .int (I 21 r)), (0, .ref (G.2.1 0)), (1, .int (nI r)), (2, .int (nI a))] dX6_placeReading_35 (by decide) rfl ?_
    refine g_aload_n hC dX6_placeReading_37 rfl 2 rfl ?_
    refine g_iload_n hC dX6_placeReading_38 rfl 3 rfl ?_
    refine g_iload_n hC dX6_placeReading_39 rfl 4 rfl ?_
    refine g_cV hC [.int (nI r), .int (nI a)] 0 (m_X6_isDoubleOf hl hG V I J r a (by omega) (by omega)) rfl (st2 := [.int ((if isD I r a = true then nI 1 else nI 0))]) rfl (by decide) rfl rfl rfl tw_275 tw_277 tw_2 tw_31 tw_278 pd_X6_isDoubleOf ⟨rfl, rfl⟩ (by rw [hRm]; exact ⟨Nat.le_of_ble_eq_true rfl, Nat.le_of_ble_eq_true rfl, Nat.le_of_ble_eq_true rfl, Nat.le_of_ble_eq_true rfl⟩) (Nat.le_of_ble_eq_true rfl) dX6_placeReading_40 ?_
    refine g_if_eq hC 58 dX6_placeReading_43 (by decide) (fun c_43 => ?_) (fun c_43 => ?_)
    · have hb := ite10_f c_43
      refine g_aload_n hC dX6_placeReading_58 rfl 2 rfl ?_
      refine g_iload_n hC dX6_placeReading_59 rfl 4 rfl ?_
      refine g_iload_n hC dX6_placeReading_60 rfl 3 rfl ?_
      refine g_cV hC [.int (nI a), .int (nI r)] 0 (m_X6_goesOnFrom hl hG V I J nr n ns v2 v4 v5 hw a r ha9 hr9) rfl (st2 := [.int ((if gO I a r = true then nI 1 else nI 0))]) rfl (by decide) rfl rfl rfl tw_287 tw_289 tw_3 tw_31 tw_290 pd_X6_goesOnFrom ⟨rfl, rfl⟩ (by rw [hRm]; exact ⟨Nat.le_of_ble_eq_true rfl, Nat.le_of_ble_eq_true rfl, Nat.le_of_ble_eq_true rfl, Nat.le_of_ble_eq_true rfl⟩) (Nat.le_of_ble_eq_true rfl) dX6_placeReading_61 ?_
      refine g_if_eq hC 89 dX6_placeReading_64 (by decide) (fun c_64 => ?_) (fun c_64 => ?_)
      · have hb2 := ite10_f c_64
        have hp : plc nr ns c (some a) I r = (c + 1, some r, bgI I c r (I 21 r)) := by unfold plc; dsimp only; rw [if_neg hb, if_neg hb2]
        refine g_aload_n hC dX6_placeReading_89 rfl 2 rfl ?_
        refine gf_X6_40 hC dX6_placeReading_90 ?_
        refine g_iload_n hC dX6_placeReading_93 rfl 3 rfl ?_
        refine g_iload_n hC dX6_placeReading_94 rfl 1 rfl ?_
        refine g_cV hC [.int (nI r), .int (I 21 r)] 5 (m_X1_begin hl hG V I J c r (I 21 r) v6 hc (by omega)) rfl (st2 := []) rfl (by decide) rfl rfl rfl tw_271 tw_272 tw_273 tw_36 tw_274 pd_X1_begin ⟨rfl, rfl⟩ (by rw [hRm]; exact ⟨Nat.le_of_ble_eq_true rfl, Nat.le_of_ble_eq_true rfl, Nat.le_of_ble_eq_true rfl, Nat.le_of_ble_eq_true rfl⟩) (Nat.le_of_ble_eq_true rfl) dX6_placeReading_95 ?_
        refine g_iload_n hC dX6_placeReading_98 rfl 3 rfl ?_
        exact g_iret hC hr dX6_placeReading_99 (Nat.le_of_ble_eq_true rfl) (Nat.le_of_ble_eq_true rfl) ⟨by rw [hp]; rfl, by first | (rw [hp]; exact (upd_self v6).symm) | rw [hp], by rw [hp], rfl⟩
      · have hb2 := ite10_t c_64
        have hp : plc nr ns c (some a) I r = (c, some r, pw nr ns (goI I r (c - 1) (I 21 r)) a r (c - 1)) := by unfold plc; dsimp only; rw [if_neg hb, if_pos hb2]
        refine g_aload_n hC dX6_placeReading_67 rfl 2 rfl ?_
        refine gf_X6_40 hC dX6_placeReading_68 ?_
        refine g_iload_n hC dX6_placeReading_71 rfl 3 rfl ?_
        refine g_iload hC dX6_placeReading_72 0 rfl ?_
        refine g_iload_n hC dX6_placeReading_74 rfl 1 rfl ?_
        refine g_cV hC [.int (nI r), .int (nI (c - 1)), .int (I 21 r)] 5 (m_X1_goOn hl hG V I J r (c - 1) (I 21 r) (by omega) (by omega)) rfl (st2 := []) rfl (by decide) rfl rfl rfl tw_295 tw_296 tw_297 tw_36 tw_298 pd_X1_goOn ⟨rfl, rfl⟩ (by rw [hRm]; exact ⟨Nat.le_of_ble_eq_true rfl, Nat.le_of_ble_eq_true rfl, Nat.le_of_ble_eq_true rfl, Nat.le_of_ble_eq_true rfl⟩) (Nat.le_of_ble_eq_true rfl) dX6_placeReading_75 ?_
        refine g_aload_n hC dX6_placeReading_78 rfl 2 rfl ?_
        refine g_iload_n hC dX6_placeReading_79 rfl 4 rfl ?_
        refine g_iload_n hC dX6_placeReading_80 rfl 3 rfl ?_
        refine g_iload hC dX6_placeReading_81 0 rfl ?_
        refine g_cV hC [.int (nI a), .int (nI r), .int (nI (c - 1))] 0 (m_X6_payWay hl hG V (goI I r (c - 1) (I 21 r)) J nr n ns v2 v4 v5 (wfC_x hw (eqx_go I r (c - 1) (I 21 r))) a r (c - 1) ha9 hr9 (by omega)) rfl (st2 := []) rfl (by decide) rfl rfl rfl tw_299 tw_301 tw_4 tw_31 tw_302 pd_X6_payWay ⟨rfl, rfl⟩ (by rw [hRm]; exact ⟨Nat.le_of_ble_eq_true rfl, Nat.le_of_ble_eq_true rfl, Nat.le_of_ble_eq_true rfl, Nat.le_of_ble_eq_true rfl⟩) (Nat.le_of_ble_eq_true rfl) dX6_placeReading_83 ?_
        refine g_goto hC 98 dX6_placeReading_86 (by decide) ?_
        refine g_iload_n hC dX6_placeReading_98 rfl 3 rfl ?_
        exact g_iret hC hr dX6_placeReading_99 (Nat.le_of_ble_eq_true rfl) (Nat.le_of_ble_eq_true rfl) ⟨by rw [hp]; rfl, by first | (rw [hp]; exact (upd_self v6).symm) | rw [hp], by rw [hp], rfl⟩
    · have hb := ite10_t c_43
      have hp : plc nr ns c (some a) I r = (c, some a, pdI I r (c - 1)) := by unfold plc; dsimp only; rw [if_pos hb]
      refine g_aload_n hC dX6_placeReading_46 rfl 2 rfl ?_
      refine gf_X6_40 hC dX6_placeReading_47 ?_
      refine g_iload_n hC dX6_placeReading_50 rfl 3 rfl ?_
      refine g_iload hC dX6_placeReading_51 0 rfl ?_
      refine g_cV hC [.int (nI r), .int (nI (c - 1))] 5 (m_X1_putDouble hl hG V I J r (c - 1) (by omega) (by omega)) rfl (st2 := []) rfl (by decide) rfl rfl rfl tw_283 tw_284 tw_285 tw_36 tw_286 pd_X1_putDouble ⟨rfl, rfl⟩ (by rw [hRm]; exact ⟨Nat.le_of_ble_eq_true rfl, Nat.le_of_ble_eq_true rfl, Nat.le_of_ble_eq_true rfl, Nat.le_of_ble_eq_true rfl⟩) (Nat.le_of_ble_eq_true rfl) dX6_placeReading_53 ?_
      refine g_iload_n hC dX6_placeReading_56 rfl 4 rfl ?_
      exact g_iret hC hr dX6_placeReading_57 (Nat.le_of_ble_eq_true rfl) (Nat.le_of_ble_eq_true rfl) ⟨by rw [hp]; rfl, by rw [hp]; exact (upd_self v6).symm, by rw [hp], rfl⟩
  · exact absurd c_12 (nI_m1 (by omega))

theorem m_X6_placeR {l : Launch} {G : wG} (hl : l.stackTraces = false) (hG : wD G) (V : wV) (I : wI) (J : wJ) (nr n ns : Nat) (v2 : V 2 = nI nr) (v4 : V 4 = nI ns) (v5 : V 5 = nI n) (hw : wfC I nr n ns) (c r : Nat) (v6 : V 6 = nI c) (hc : c < 100) (hr9 : r < n) (ah : Option Nat) (hk : ∀ a, ah = some a → a < n ∧ 1 ≤ c ∧ I 27 a = nI (c - 1)) : Ctr l yX6_placeReading cX6_placeReading 5 (some .int) { frames := 4, cells := 0, slots := 0, locals := 106 } G [.ref (G.2.1 0), .int (nI r), .int (ahv ah)] V I J (pU (some (.int (ahv (plc nr ns c ah I r).2.1))) (upd V 6 (nI (plc nr ns c ah I r).1)) (plc nr ns c ah I r).2.2 J) noX := by
  cases ah with
  | none => exact m_X6_placeReading0 hl hG V I J nr n ns v2 v4 v5 hw c r v6 hc hr9
  | some a =>
    obtain ⟨h1, h2, h3⟩ := hk a rfl
    exact m_X6_placeReading hl hG V I J nr n ns v2 v4 v5 hw c r v6 hc hr9 a h1 h2 h3

set_option maxRecDepth 100000 in
theorem m_X6_findJourneys {l : Launch} {G : wG} (hl : l.stackTraces = false) (hG : wD G) (V : wV) (I : wI) (J : wJ) (nr n ns : Nat) (v2 : V 2 = nI nr) (v4 : V 4 = nI ns) (v5 : V 5 = nI n) (hw : wfC I nr n ns) (plate : Nat) (hp9 : plate < 10) : Ctr l yX6_findJourneys cX6_findJourneys 5 none { frames := 5, cells := 0, slots := 0, locals := 130 } G [.ref (G.2.1 0), .int (nI plate)] V I J (pU none (upd V 6 (nI (fj nr ns plate I n).1)) (fj nr ns plate I n).2.2 J) (noX) := by
  refine ctr_of hl hG (by decide) (Nat.le_of_ble_eq_true rfl) [(0, .ref (G.2.1 0)), (1, .int (nI plate))] rfl ?_
  intro K hC hKl hRm hr hT
  subst hKl
  have hC : Cx K G RX6 cX6_findJourneys 5 := hC
  obtain ⟨w1, w2, w3, w4, w5, w6, w7⟩ := id hw
  have w24 := w1.1
  have lp_11 : ∀ (k9 : Nat) (p : Nat) (hp : p ≤ n) (hk : n < p + k9), WW K G 0 0 (QM K G { frames := 5, cells := 0, slots := 0, locals := 130 } (pU none (upd V 6 (nI (fj nr ns plate I n).1)) (fj nr ns plate I n).2.2 J) (noX)) (upd V 6 (nI (fj nr ns plate I p).1)) ((fj nr ns plate I p).2.2) J 11 [(3, .int (nI p)), (2, .int (ahv (fj nr ns plate I p).2.1)), (0, .ref (G.2.1 0)), (1, .int (nI plate))] [] := by
    intro k9
    induction k9 with
    | zero =>
      intro p hp hk
      omega
    | succ k9 ih =>
      intro p hp hk
      have hf := fj_ok (plate := plate) hw p hp
      have hwx := wfC_x hw hf.2.1
      have hfc := hf.1
      refine g_iload_n hC dX6_findJourneys_11 rfl 0 rfl ?_
      refine g_aload_n hC dX6_findJourneys_12 rfl 2 rfl ?_
      refine gf_X6_33 hC dX6_findJourneys_13 ?_
      refine gf_X6_127 hC dX6_findJourneys_16 ?_
      refine g_eqI (x' := nI n) (by rw [pk_un (by decide), v5]) ?_
      refine g_icmp_ge hC 74 dX6_findJourneys_19 (by decide) (fun c_19 => ?_) (fun c_19 => ?_)
      · have d_19 : n ≤ p := (nI_leI (by omega) (by omega)).mp c_19
        exact g_vret hC hr dX6_findJourneys_74 (Nat.le_of_ble_eq_true rfl) (Nat.le_of_ble_eq_true rfl) ⟨rfl, by rw [show p = n by omega], by rw [show p = n by omega], rfl⟩
      · have d_19 : ¬ n ≤ p := fun q => c_19 ((nI_leI (by omega) (by omega)).mpr q)
        have ho := ord_tn hwx.2.2.2.2.1 (show p < n by omega) w4
        have ho1 := ho.1
        refine g_aload_n hC dX6_findJourneys_22 rfl 2 rfl ?_
        refine gf_X6_33 hC dX6_findJourneys_23 ?_
        refine gf_X6_247 hC dX6_findJourneys_26 ?_
        refine g_iload_n hC dX6_findJourneys_29 rfl 0 rfl ?_
        refine n_iald hC 23 aa_23 p (show p < 100 by omega) dX6_findJourneys_30 ?_
        refine g_eqI (x' := nI (tn ((fj nr ns plate I p).2.2 23 p))) ho.2 ?_
        refine g_istore hC [(4, .int (nI (tn ((fj nr ns plate I p).2.2 23 p)))), (3, .int (nI p)), (2, .int (ahv (fj nr ns plate I p).2.1)), (0, .ref (G.2.1 0)), (1, .int (nI plate))] dX6_findJourneys_31 (by decide) rfl ?_
        refine g_aload_n hC dX6_findJourneys_33 rfl 3 rfl ?_
        refine gf_X6_33 hC dX6_findJourneys_34 ?_
        refine gf_X6_208 hC dX6_findJourneys_37 ?_
        refine g_iload hC dX6_findJourneys_40 0 rfl ?_
        refine n_iald hC 20 aa_20 (tn ((fj nr ns plate I p).2.2 23 p)) (show tn ((fj nr ns plate I p).2.2 23 p) < 100 by omega) dX6_findJourneys_42 ?_
        refine g_iload_n hC dX6_findJourneys_43 rfl 4 rfl ?_
        refine g_icmp_ne hC 68 dX6_findJourneys_44 (by decide) (fun c_44 => ?_) (fun c_44 => ?_)
        · refine g_iinc (v := nI (p + 1)) hC [(3, .int (nI (p + 1))), (4, .int (nI (tn ((fj nr ns plate I p).2.2 23 p)))), (2, .int (ahv (fj nr ns plate I p).2.1)), (0, .ref (G.2.1 0)), (1, .int (nI plate))] dX6_findJourneys_68 1 rfl (nI_i1 _) (by decide) rfl ?_
          refine g_goto hC 11 dX6_findJourneys_71 (by decide) ?_
          refine g_lv [0, 2, 3, 4] (lv2 := [(3, .int (nI (p + 1))), (2, .int (ahv (fj nr ns plate I p).2.1)), (0, .ref (G.2.1 0)), (1, .int (nI plate))]) rfl ?_
          have hs : fj nr ns plate I (p + 1) = fj nr ns plate I p := if_neg (by first | exact fun q => c_44 q.1 | exact fun q => c_57 q.2)
          refine g_st (V1 := upd V 6 (nI (fj nr ns plate I (p + 1)).1)) (I1 := (fj nr ns plate I (p + 1)).2.2) (J1 := J) (by rw [hs]) (by rw [hs]) rfl ?_
          refine g_at rfl (lv2 := [(3, .int (nI (p + 1))), (2, .int (ahv (fj nr ns plate I (p + 1)).2.1)), (0, .ref (G.2.1 0)), (1, .int (nI plate))]) (by rw [hs]) rfl ?_
          exact ih (p + 1) (by omega) (by omega)
        · refine g_aload_n hC dX6_findJourneys_47 rfl 3 rfl ?_
          refine gf_X6_33 hC dX6_findJourneys_48 ?_
          refine gf_X6_138 hC dX6_findJourneys_51 ?_
          refine g_iload hC dX6_findJourneys_54 0 rfl ?_
          refine n_zald hC 22 aa_22 (tn ((fj nr ns plate I p).2.2 23 p)) (show tn ((fj nr ns plate I p).2.2 23 p) < 100 by omega) dX6_findJourneys_56 ?_
          refine g_if_ne hC 68 dX6_findJourneys_57 (by decide) (fun c_57 => ?_) (fun c_57 => ?_)
          · refine g_iinc (v := nI (p + 1)) hC [(3, .int (nI (p + 1))), (4, .int (nI (tn ((fj nr ns plate I p).2.2 23 p)))), (2, .int (ahv (fj nr ns plate I p).2.1)), (0, .ref (G.2.1 0)), (1, .int (nI plate))] dX6_findJourneys_68 1 rfl (nI_i1 _) (by decide) rfl ?_
            refine g_goto hC 11 dX6_findJourneys_71 (by decide) ?_
            refine g_lv [0, 2, 3, 4] (lv2 := [(3, .int (nI (p + 1))), (2, .int (ahv (fj nr ns plate I p).2.1)), (0, .ref (G.2.1 0)), (1, .int (nI plate))]) rfl ?_
            have hs : fj nr ns plate I (p + 1) = fj nr ns plate I p := if_neg (by first | exact fun q => c_44 q.1 | exact fun q => c_57 q.2)
            refine g_st (V1 := upd V 6 (nI (fj nr ns plate I (p + 1)).1)) (I1 := (fj nr ns plate I (p + 1)).2.2) (J1 := J) (by rw [hs]) (by rw [hs]) rfl ?_
            refine g_at rfl (lv2 := [(3, .int (nI (p + 1))), (2, .int (ahv (fj nr ns plate I (p + 1)).2.1)), (0, .ref (G.2.1 0)), (1, .int (nI plate))]) (by rw [hs]) rfl ?_
            exact ih (p + 1) (by omega) (by omega)
          · refine g_aload_n hC dX6_findJourneys_60 rfl 3 rfl ?_
            refine g_iload hC dX6_findJourneys_61 0 rfl ?_
            refine g_iload_n hC dX6_findJourneys_63 rfl 2 rfl ?_
            refine g_cV hC [.int (nI (tn ((fj nr ns plate I p).2.2 23 p))), .int (ahv (fj nr ns plate I p).2.1)] 0 (m_X6_placeR hl hG (upd V 6 (nI (fj nr ns plate I p).1)) (fj nr ns plate I p).2.2 J nr n ns ((pk_un (by decide)).trans v2) ((pk_un (by decide)).trans v4) ((pk_un (by decide)).trans v5) hwx (fj nr ns plate I p).1 (tn ((fj nr ns plate I p).2.2 23 p)) pk_us (by omega) ho1 (fj nr ns plate I p).2.1 hf.2.2) rfl (st2 := [.int (ahv (plc nr ns (fj nr ns plate I p).1 (fj nr ns plate I p).2.1 (fj nr ns plate I p).2.2 (tn ((fj nr ns plate I p).2.2 23 p))).2.1)]) rfl (by decide) rfl rfl rfl tw_267 tw_269 tw_1 tw_31 tw_270 pd_X6_placeReading ⟨rfl, rfl⟩ (by rw [hRm]; exact ⟨Nat.le_of_ble_eq_true rfl, Nat.le_of_ble_eq_true rfl, Nat.le_of_ble_eq_true rfl, Nat.le_of_ble_eq_true rfl⟩) (Nat.le_of_ble_eq_true rfl) dX6_findJourneys_64 ?_
            refine g_istore_n hC [(2, .int (ahv (plc nr ns (fj nr ns plate I p).1 (fj nr ns plate I p).2.1 (fj nr ns plate I p).2.2 (tn ((fj nr ns plate I p).2.2 23 p))).2.1)), (4, .int (nI (tn ((fj nr ns plate I p).2.2 23 p)))), (3, .int (nI p)), (0, .ref (G.2.1 0)), (1, .int (nI plate))] dX6_findJourneys_67 rfl (by decide) rfl ?_
            refine g_iinc (v := nI (p + 1)) hC [(3, .int (nI (p + 1))), (2, .int (ahv (plc nr ns (fj nr ns plate I p).1 (fj nr ns plate I p).2.1 (fj nr ns plate I p).2.2 (tn ((fj nr ns plate I p).2.2 23 p))).2.1)), (4, .int (nI (tn ((fj nr ns plate I p).2.2 23 p)))), (0, .ref (G.2.1 0)), (1, .int (nI plate))] dX6_findJourneys_68 2 rfl (nI_i1 _) (by decide) rfl ?_
            refine g_goto hC 11 dX6_findJourneys_71 (by decide) ?_
            refine g_lv [0, 1, 3, 4] (lv2 := [(3, .int (nI (p + 1))), (2, .int (ahv (plc nr ns (fj nr ns plate I p).1 (fj nr ns plate I p).2.1 (fj nr ns plate I p).2.2 (tn ((fj nr ns plate I p).2.2 23 p))).2.1)), (0, .ref (G.2.1 0)), (1, .int (nI plate))]) rfl ?_
            have hs : fj nr ns plate I (p + 1) = plc nr ns (fj nr ns plate I p).1 (fj nr ns plate I p).2.1 (fj nr ns plate I p).2.2 (tn ((fj nr ns plate I p).2.2 23 p)) := if_pos ⟨c_44, c_57⟩
            refine g_st (V1 := upd V 6 (nI (fj nr ns plate I (p + 1)).1)) (I1 := (fj nr ns plate I (p + 1)).2.2) (J1 := J) (by rw [hs, upd_upd]) (by rw [hs]) rfl ?_
            refine g_at rfl (lv2 := [(3, .int (nI (p + 1))), (2, .int (ahv (fj nr ns plate I (p + 1)).2.1)), (0, .ref (G.2.1 0)), (1, .int (nI plate))]) (by rw [hs]) rfl ?_
            exact ih (p + 1) (by omega) (by omega)
  refine g_aload_n hC dX6_findJourneys_0 rfl 0 rfl ?_
  refine gf_X6_40 hC dX6_findJourneys_1 ?_
  refine g_cV hC [] 5 (m_X1_forgetAll hl hG V I J) rfl (st2 := []) rfl (by decide) rfl rfl rfl tw_263 tw_264 tw_265 tw_36 tw_266 pd_X1_forgetAll ⟨rfl, rfl⟩ (by rw [hRm]; exact ⟨Nat.le_of_ble_eq_true rfl, Nat.le_of_ble_eq_true rfl, Nat.le_of_ble_eq_true rfl, Nat.le_of_ble_eq_true rfl⟩) (Nat.le_of_ble_eq_true rfl) dX6_findJourneys_4 ?_
  refine g_iconst (v := (-1)) hC dX6_findJourneys_7 (by decide) ?_
  refine g_istore_n hC [(2, .int ((-1))), (0, .ref (G.2.1 0)), (1, .int (nI plate))] dX6_findJourneys_8 rfl (by decide) rfl ?_
  refine g_iconst (v := nI 0) hC dX6_findJourneys_9 (by decide) ?_
  refine g_istore_n hC [(3, .int (nI 0)), (2, .int ((-1))), (0, .ref (G.2.1 0)), (1, .int (nI plate))] dX6_findJourneys_10 rfl (by decide) rfl ?_
  exact lp_11 (n + 1) 0 (by omega) (by omega)
