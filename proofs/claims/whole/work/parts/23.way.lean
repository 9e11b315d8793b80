set_option maxRecDepth 100000 in
theorem m_X6_isDoubleOf {l : Launch} {G : wG} (hl : l.stackTraces = false) (hG : wD G) (V : wV) (I : wI) (J : wJ) (r a : Nat) (h1 : r < 100) (h2 : a < 100) : Ctr l yX6_isDoubleOf cX6_isDoubleOf 3 (some .boolean) { frames := 1, cells := 0, slots := 0, locals := 22 } G [.ref (G.2.1 0), .int (nI r), .int (nI a)] V I J (pU (some (.int (if isD I r a = true then nI 1 else nI 0))) V I J) (noX) := by
  refine ctr_of hl hG (by decide) (Nat.le_of_ble_eq_true rfl) [(0, .ref (G.2.1 0)), (1, .int (nI r)), (2, .int (nI a))] rfl ?_
  intro K hC hKl hRm hr hT
  subst hKl
  have hC : Cx K G RX6 cX6_isDoubleOf 3 := hC
  refine g_aload_n hC dX6_isDoubleOf_0 rfl 0 rfl ?_
  refine gf_X6_33 hC dX6_isDoubleOf_1 ?_
  refine gf_X6_205 hC dX6_isDoubleOf_4 ?_
  refine g_iload_n hC dX6_isDoubleOf_7 rfl 1 rfl ?_
  refine n_iald hC 19 aa_19 r (show r < 100 by omega) dX6_isDoubleOf_8 ?_
  refine g_aload_n hC dX6_isDoubleOf_9 rfl 0 rfl ?_
  refine gf_X6_33 hC dX6_isDoubleOf_10 ?_
  refine gf_X6_205 hC dX6_isDoubleOf_13 ?_
  refine g_iload_n hC dX6_isDoubleOf_16 rfl 2 rfl ?_
  refine n_iald hC 19 aa_19 a (show a < 100 by omega) dX6_isDoubleOf_17 ?_
  refine g_icmp_ne hC 38 dX6_isDoubleOf_18 (by decide) (fun c_18 => ?_) (fun c_18 => ?_)
  · refine g_iconst (v := nI 0) hC dX6_isDoubleOf_38 (by decide) ?_
    exact g_zret hC (by first | exact Or.inl rfl | exact Or.inr rfl) hr dX6_isDoubleOf_39 (Nat.le_of_ble_eq_true rfl) (Nat.le_of_ble_eq_true rfl) ⟨by simp [isD, *], rfl, rfl, rfl⟩
  · refine g_aload_n hC dX6_isDoubleOf_21 rfl 0 rfl ?_
    refine gf_X6_33 hC dX6_isDoubleOf_22 ?_
    refine g_iload_n hC dX6_isDoubleOf_25 rfl 2 rfl ?_
    refine g_iload_n hC dX6_isDoubleOf_26 rfl 1 rfl ?_
    refine g_cV hC [.int (nI a), .int (nI r)] 4 (m_X3_minutesBetween hl hG V I J a r (by omega) (by omega)) rfl (st2 := [.int (I 21 r - I 21 a)]) rfl (by decide) rfl rfl rfl tw_279 tw_280 tw_281 tw_35 tw_282 pd_X3_minutesBetween ⟨rfl, rfl⟩ (by rw [hRm]; exact ⟨Nat.le_of_ble_eq_true rfl, Nat.le_of_ble_eq_true rfl, Nat.le_of_ble_eq_true rfl, Nat.le_of_ble_eq_true rfl⟩) (Nat.le_of_ble_eq_true rfl) dX6_isDoubleOf_27 ?_
    refine g_iconst (v := nI 5) hC dX6_isDoubleOf_30 (by decide) ?_
    refine g_icmp_gt hC 38 dX6_isDoubleOf_31 (by decide) (fun c_31 => ?_) (fun c_31 => ?_)
    · refine g_iconst (v := nI 0) hC dX6_isDoubleOf_38 (by decide) ?_
      exact g_zret hC (by first | exact Or.inl rfl | exact Or.inr rfl) hr dX6_isDoubleOf_39 (Nat.le_of_ble_eq_true rfl) (Nat.le_of_ble_eq_true rfl) ⟨by simp [isD, *], rfl, rfl, rfl⟩
    · refine g_iconst (v := nI 1) hC dX6_isDoubleOf_34 (by decide) ?_
      refine g_goto hC 39 dX6_isDoubleOf_35 (by decide) ?_
      exact g_zret hC (by first | exact Or.inl rfl | exact Or.inr rfl) hr dX6_isDoubleOf_39 (Nat.le_of_ble_eq_true rfl) (Nat.le_of_ble_eq_true rfl) ⟨by simp [isD, *], rfl, rfl, rfl⟩

set_option maxRecDepth 100000 in
theorem m_X6_goesOnFrom {l : Launch} {G : wG} (hl : l.stackTraces = false) (hG : wD G) (V : wV) (I : wI) (J : wJ) (nr n ns : Nat) (v2 : V 2 = nI nr) (v4 : V 4 = nI ns) (v5 : V 5 = nI n) (hw : wfC I nr n ns) (a r : Nat) (h1 : a < n) (h2 : r < n) : Ctr l yX6_goesOnFrom cX6_goesOnFrom 7 (some .boolean) { frames := 1, cells := 0, slots := 0, locals := 22 } G [.ref (G.2.1 0), .int (nI a), .int (nI r)] V I J (pU (some (.int (if gO I a r = true then nI 1 else nI 0))) V I J) (noX) := by
  refine ctr_of hl hG (by decide) (Nat.le_of_ble_eq_true rfl) [(0, .ref (G.2.1 0)), (1, .int (nI a)), (2, .int (nI r))] rfl ?_
  intro K hC hKl hRm hr hT
  subst hKl
  have hC : Cx K G RX6 cX6_goesOnFrom 7 := hC
  obtain ⟨w1, w2, w3, w4, w5, w6, w7⟩ := id hw
  have w24 := w1.1
  obtain ⟨ga1, ga2⟩ := vin_tn (w6 a h1).1 (by decide)
  obtain ⟨gr1, gr2⟩ := vin_tn (w6 r h2).1 (by decide)
  refine g_aload_n hC dX6_goesOnFrom_0 rfl 0 rfl ?_
  refine gf_X6_33 hC dX6_goesOnFrom_1 ?_
  refine gf_X6_205 hC dX6_goesOnFrom_4 ?_
  refine g_iload_n hC dX6_goesOnFrom_7 rfl 1 rfl ?_
  refine n_iald hC 19 aa_19 a (show a < 100 by omega) dX6_goesOnFrom_8 ?_
  refine g_eqI (x' := nI (tn (I 19 a))) ga2 ?_
  refine g_istore_n hC [(3, .int (nI (tn (I 19 a)))), (0, .ref (G.2.1 0)), (1, .int (nI a)), (2, .int (nI r))] dX6_goesOnFrom_9 rfl (by decide) rfl ?_
  refine g_aload_n hC dX6_goesOnFrom_10 rfl 1 rfl ?_
  refine gf_X6_33 hC dX6_goesOnFrom_11 ?_
  refine gf_X6_205 hC dX6_goesOnFrom_14 ?_
  refine g_iload_n hC dX6_goesOnFrom_17 rfl 3 rfl ?_
  refine n_iald hC 19 aa_19 r (show r < 100 by omega) dX6_goesOnFrom_18 ?_
  refine g_eqI (x' := nI (tn (I 19 r))) gr2 ?_
  refine g_istore hC [(4, .int (nI (tn (I 19 r)))), (3, .int (nI (tn (I 19 a)))), (0, .ref (G.2.1 0)), (1, .int (nI a)), (2, .int (nI r))] dX6_goesOnFrom_19 (by decide) rfl ?_
  refine g_aload_n hC dX6_goesOnFrom_21 rfl 2 rfl ?_
  refine gf_X6_10 hC dX6_goesOnFrom_22 ?_
  refine g_iload_n hC dX6_goesOnFrom_25 rfl 1 rfl ?_
  refine g_iload hC dX6_goesOnFrom_26 0 rfl ?_
  refine g_cV hC [.int (nI (tn (I 19 a))), .int (nI (tn (I 19 r)))] 1 (m_X4_hasWay hl hG V I J (tn (I 19 a)) (tn (I 19 r)) ga1 gr1) rfl (st2 := [.int ((if I (35 + (tn (I 19 a))) (tn (I 19 r)) < nI 1000000 then nI 1 else nI 0))]) rfl (by decide) rfl rfl rfl tw_291 tw_292 tw_293 tw_32 tw_294 pd_X4_hasWay ⟨rfl, rfl⟩ (by rw [hRm]; exact ⟨Nat.le_of_ble_eq_true rfl, Nat.le_of_ble_eq_true rfl, Nat.le_of_ble_eq_true rfl, Nat.le_of_ble_eq_true rfl⟩) (Nat.le_of_ble_eq_true rfl) dX6_goesOnFrom_28 ?_
  refine g_if_ne hC 36 dX6_goesOnFrom_31 (by decide) (fun c_31 => ?_) (fun c_31 => ?_)
  · have hb := ite10_t c_31
    refine g_aload_n hC dX6_goesOnFrom_36 rfl 2 rfl ?_
    refine gf_X6_10 hC dX6_goesOnFrom_37 ?_
    refine gf_X6_171 hC dX6_goesOnFrom_40 ?_
    refine g_iload_n hC dX6_goesOnFrom_43 rfl 1 rfl ?_
    refine n_aald33 hC (tn (I 19 a)) (show tn (I 19 a) < 12 by first | omega | exact ga1) dX6_goesOnFrom_44 ?_
    refine g_iload hC dX6_goesOnFrom_45 0 rfl ?_
    refine n_iald hC (35 + (tn (I 19 a))) (ar_33 (show (tn (I 19 a)) < 12 by first | exact gr1 | exact ga1 | omega)) (tn (I 19 r)) (by rw [al_33 (show (tn (I 19 a)) < 12 by first | exact gr1 | exact ga1 | omega)]; first | exact gr1 | exact ga1 | omega) dX6_goesOnFrom_47 ?_
    refine g_istore hC [(5, .int (I (35 + (tn (I 19 a))) (tn (I 19 r)))), (4, .int (nI (tn (I 19 r)))), (3, .int (nI (tn (I 19 a)))), (0, .ref (G.2.1 0)), (1, .int (nI a)), (2, .int (nI r))] dX6_goesOnFrom_48 (by decide) rfl ?_
    refine g_aload_n hC dX6_goesOnFrom_50 rfl 3 rfl ?_
    refine gf_X6_33 hC dX6_goesOnFrom_51 ?_
    refine g_iload_n hC dX6_goesOnFrom_54 rfl 4 rfl ?_
    refine g_iload_n hC dX6_goesOnFrom_55 rfl 5 rfl ?_
    refine g_cV hC [.int (nI a), .int (nI r)] 4 (m_X3_minutesBetween hl hG V I J a r (by omega) (by omega)) rfl (st2 := [.int (I 21 r - I 21 a)]) rfl (by decide) rfl rfl rfl tw_279 tw_280 tw_281 tw_35 tw_282 pd_X3_minutesBetween ⟨rfl, rfl⟩ (by rw [hRm]; exact ⟨Nat.le_of_ble_eq_true rfl, Nat.le_of_ble_eq_true rfl, Nat.le_of_ble_eq_true rfl, Nat.le_of_ble_eq_true rfl⟩) (Nat.le_of_ble_eq_true rfl) dX6_goesOnFrom_56 ?_
    refine g_istore hC [(6, .int (I 21 r - I 21 a)), (5, .int (I (35 + (tn (I 19 a))) (tn (I 19 r)))), (4, .int (nI (tn (I 19 r)))), (3, .int (nI (tn (I 19 a)))), (0, .ref (G.2.1 0)), (1, .int (nI a)), (2, .int (nI r))] dX6_goesOnFrom_59 (by decide) rfl ?_
    refine g_iload hC dX6_goesOnFrom_61 0 rfl ?_
    refine g_iload hC dX6_goesOnFrom_63 1 rfl ?_
    refine g_icmp_lt hC 84 dX6_goesOnFrom_65 (by decide) (fun c_65 => ?_) (fun c_65 => ?_)
    · refine g_iconst (v := nI 0) hC dX6_goesOnFrom_84 (by decide) ?_
      exact g_zret hC (by first | exact Or.inl rfl | exact Or.inr rfl) hr dX6_goesOnFrom_85 (Nat.le_of_ble_eq_true rfl) (Nat.le_of_ble_eq_true rfl) ⟨by first | rw [if_pos (gO_t hb c_65 c_77)] | rw [if_neg (gO_f2 c_65)] | rw [if_neg (gO_f3 c_77)], rfl, rfl, rfl⟩
    · refine g_iload hC dX6_goesOnFrom_68 0 rfl ?_
      refine g_iconst (v := nI 3) hC dX6_goesOnFrom_70 (by decide) ?_
      refine g_iload hC dX6_goesOnFrom_71 1 rfl ?_
      refine g_imul hC dX6_goesOnFrom_73 ?_
      refine g_bipush (v := nI 10) hC dX6_goesOnFrom_74 (by decide) ?_
      refine g_iadd hC dX6_goesOnFrom_76 ?_
      refine g_icmp_gt hC 84 dX6_goesOnFrom_77 (by decide) (fun c_77 => ?_) (fun c_77 => ?_)
      · refine g_iconst (v := nI 0) hC dX6_goesOnFrom_84 (by decide) ?_
        exact g_zret hC (by first | exact Or.inl rfl | exact Or.inr rfl) hr dX6_goesOnFrom_85 (Nat.le_of_ble_eq_true rfl) (Nat.le_of_ble_eq_true rfl) ⟨by first | rw [if_pos (gO_t hb c_65 c_77)] | rw [if_neg (gO_f2 c_65)] | rw [if_neg (gO_f3 c_77)], rfl, rfl, rfl⟩
      · refine g_iconst (v := nI 1) hC dX6_goesOnFrom_80 (by decide) ?_
        refine g_goto hC 85 dX6_goesOnFrom_81 (by decide) ?_
        exact g_zret hC (by first | exact Or.inl rfl | exact Or.inr rfl) hr dX6_goesOnFrom_85 (Nat.le_of_ble_eq_true rfl) (Nat.le_of_ble_eq_true rfl) ⟨by first | rw [if_pos (gO_t hb c_65 c_77)] | rw [if_neg (gO_f2 c_65)] | rw [if_neg (gO_f3 c_77)], rfl, rfl, rfl⟩
  · have hb := ite10_f c_31
    refine g_iconst (v := nI 0) hC dX6_goesOnFrom_34 (by decide) ?_
    exact g_zret hC (by first | exact Or.inl rfl | exact Or.inr rfl) hr dX6_goesOnFrom_35 (Nat.le_of_ble_eq_true rfl) (Nat.le_of_ble_eq_true rfl) ⟨by rw [if_neg (gO_f1 hb)], rfl, rfl, rfl⟩

set_option maxRecDepth 100000 in
theorem m_X6_payWay {l : Launch} {G : wG} (hl : l.stackTraces = false) (hG : wD G) (V : wV) (I : wI) (J : wJ) (nr n ns : Nat) (v2 : V 2 = nI nr) (v4 : V 4 = nI ns) (v5 : V 5 = nI n) (hw : wfC I nr n ns) (a r j : Nat) (h1 : a < n) (h2 : r < n) (h3 : j < 100) : Ctr l yX6_payWay cX6_payWay 11 none { frames := 3, cells := 0, slots := 0, locals := 76 } G [.ref (G.2.1 0), .int (nI a), .int (nI r), .int (nI j)] V I J (pU none V (pw nr ns I a r j) J) (noX) := by
  refine ctr_of hl hG (by decide) (Nat.le_of_ble_eq_true rfl) [(0, .ref (G.2.1 0)), (1, .int (nI a)), (2, .int (nI r)), (3, .int (nI j))] rfl ?_
  intro K hC hKl hRm hr hT
  subst hKl
  have hC : Cx K G RX6 cX6_payWay 11 := hC
  obtain ⟨w1, w2, w3, w4, w5, w6, w7⟩ := id hw
  have w24 := w1.1
  obtain ⟨ga1, ga2⟩ := vin_tn (w6 a h1).1 (by decide)
  obtain ⟨gr1, gr2⟩ := vin_tn (w6 r h2).1 (by decide)
  obtain ⟨pa1, pa2⟩ := vin_tn (w6 a h1).2 (by decide)
  obtain ⟨ka1, ka2⟩ := vin_tn (w7 _ pa1) (by decide)
  have lp_62 : ∀ (k9 : Nat) (i at9 : Nat) (I2 : wI) (hi : i ≤ 12) (hk : 12 < i + k9) (ha : at9 < 12) (he : eqx I I2) (hx : ¬ an (ec I (I 20 a) (I 21 a)) ns = true) (hf : pw nr ns I a r j = pwL nr (tn (I 14 (tn (I 20 a)))) (I 21 a) (tn (I 19 r)) j (12 - i) (nI at9) I2), WW K G 0 0 (QM K G { frames := 3, cells := 0, slots := 0, locals := 76 } (pU none V (pw nr ns I a r j) J) (noX)) V I2 J 62 [(8, .int (nI i)), (7, .int (nI at9)), (6, .int (nI (tn (I 19 r)))), (5, .int (I 21 a)), (4, .int (nI (tn (I 20 a)))), (0, .ref (G.2.1 0)), (1, .int (nI a)), (2, .int (nI r)), (3, .int (nI j))] [] := by
    intro k9
    induction k9 with
    | zero =>
      intro i at9 I2 hi hk ha he hx hf
      omega
    | succ k9 ih =>
      intro i at9 I2 hi hk ha he hx hf
      have hwx := wfC_x hw he
      have hcl : tn (nI at9) = at9 := nI_clamp (by omega)
      have hst : i < 12 → pw nr ns I a r j = (if rT I2 nr at9 (tn (I 19 r)) = -1 then I2 else pwL nr (tn (I 14 (tn (I 20 a)))) (I 21 a) (tn (I 19 r)) j (12 - (i + 1)) (oE I2 (tn (rT I2 nr at9 (tn (I 19 r)))) (nI at9)) (sI I2 (47 + (tn (I2 11 (tn (rT I2 nr at9 (tn (I 19 r))))))) j (I2 (47 + (tn (I2 11 (tn (rT I2 nr at9 (tn (I 19 r))))))) j + cf I2 (I2 10 (tn (rT I2 nr at9 (tn (I 19 r))))) (tn (I 14 (tn (I 20 a)))) (I 21 a)))) := fun q => by rw [hf, show 12 - i = (12 - (i + 1)) + 1 by omega]; show (if rT I2 nr (tn (nI at9)) (tn (I 19 r)) = -1 then I2 else _) = _; rw [hcl]
      refine g_iload hC dX6_payWay_62 0 rfl ?_
      refine g_bipush (v := nI 12) hC dX6_payWay_64 (by decide) ?_
      refine g_icmp_ge hC 159 dX6_payWay_66 (by decide) (fun c_66 => ?_) (fun c_66 => ?_)
      · have d_66 : 12 ≤ i := (nI_leI (by omega) (by omega)).mp c_66
        exact g_vret hC hr dX6_payWay_159 (Nat.le_of_ble_eq_true rfl) (Nat.le_of_ble_eq_true rfl) ⟨rfl, rfl, by rw [hf, show 12 - i = 0 by omega]; rfl, rfl⟩
      · have d_66 : ¬ 12 ≤ i := fun q => c_66 ((nI_leI (by omega) (by omega)).mpr q)
        refine g_aload_n hC dX6_payWay_69 rfl 5 rfl ?_
        refine gf_X6_10 hC dX6_payWay_70 ?_
        refine g_iload hC dX6_payWay_73 1 rfl ?_
        refine g_iload hC dX6_payWay_75 2 rfl ?_
        refine g_cV hC [.int (nI at9), .int (nI (tn (I 19 r)))] 1 (m_X4_roadTowards hl hG V I2 J nr at9 (tn (I 19 r)) v2 hwx.1 (by omega) gr1) rfl (st2 := [.int (rT I2 nr at9 (tn (I 19 r)))]) rfl (by decide) rfl rfl rfl tw_307 tw_308 tw_309 tw_32 tw_310 pd_X4_roadTowards ⟨rfl, rfl⟩ (by rw [hRm]; exact ⟨Nat.le_of_ble_eq_true rfl, Nat.le_of_ble_eq_true rfl, Nat.le_of_ble_eq_true rfl, Nat.le_of_ble_eq_true rfl⟩) (Nat.le_of_ble_eq_true rfl) dX6_payWay_77 ?_
        refine g_istore hC [(9, .int (rT I2 nr at9 (tn (I 19 r)))), (8, .int (nI i)), (7, .int (nI at9)), (6, .int (nI (tn (I 19 r)))), (5, .int (I 21 a)), (4, .int (nI (tn (I 20 a)))), (0, .ref (G.2.1 0)), (1, .int (nI a)), (2, .int (nI r)), (3, .int (nI j))] dX6_payWay_80 (by decide) rfl ?_
        refine g_iload hC dX6_payWay_82 0 rfl ?_
        refine g_iconst (v := (-1)) hC dX6_payWay_84 (by decide) ?_
        refine g_icmp_ne hC 89 dX6_payWay_85 (by decide) (fun c_85 => ?_) (fun c_85 => ?_)
        · have hq := rT_nI hwx.1 c_85
          have hq1 : (tn (rT I2 nr at9 (tn (I 19 r)))) < nr := hq.1
          have ho := own_lt hwx hq1
          have ho1 := ho.1
          have hq2 := oE_nI hwx.1 hq1 (rT_oE hwx.1 c_85)
          refine g_aload_n hC dX6_payWay_89 rfl 6 rfl ?_
          refine gf_X6_19 hC dX6_payWay_90 ?_
          refine g_aload_n hC dX6_payWay_93 rfl 6 rfl ?_
          refine gf_X6_10 hC dX6_payWay_94 ?_
          refine gf_X6_284 hC dX6_payWay_97 ?_
          refine g_iload hC dX6_payWay_100 0 rfl ?_
          refine g_eqI (x' := nI (tn (rT I2 nr at9 (tn (I 19 r))))) hq.2.1 ?_
          refine n_iald hC 10 aa_10 (tn (rT I2 nr at9 (tn (I 19 r)))) (show tn (rT I2 nr at9 (tn (I 19 r))) < 24 by omega) dX6_payWay_102 ?_
          refine g_aload_n hC dX6_payWay_103 rfl 6 rfl ?_
          refine gf_X6_26 hC dX6_payWay_104 ?_
          refine gf_X6_105 hC dX6_payWay_107 ?_
          refine g_iload hC dX6_payWay_110 5 rfl ?_
          refine n_iald hC 14 aa_14 (tn (I 20 a)) (show tn (I 20 a) < 10 by first | omega | exact pa1) dX6_payWay_112 ?_
          refine g_eqI (x' := nI (tn (I 14 (tn (I 20 a))))) (by rw [he 14 (by omega)]; exact ka2) ?_
          refine g_iload hC dX6_payWay_113 4 rfl ?_
          refine g_cV hC [.int (I2 10 (tn (rT I2 nr at9 (tn (I 19 r))))), .int (nI (tn (I 14 (tn (I 20 a))))), .int (I 21 a)] 2 (m_X5_centsFor hl hG V I2 J (I2 10 (tn (rT I2 nr at9 (tn (I 19 r))))) (tn (I 14 (tn (I 20 a)))) (I 21 a) ka1) rfl (st2 := [.int (cf I2 (I2 10 (tn (rT I2 nr at9 (tn (I 19 r))))) (tn (I 14 (tn (I 20 a)))) (I 21 a))]) rfl (by decide) rfl rfl rfl tw_315 tw_316 tw_317 tw_33 tw_318 pd_X5_centsFor ⟨rfl, rfl⟩ (by rw [hRm]; exact ⟨Nat.le_of_ble_eq_true rfl, Nat.le_of_ble_eq_true rfl, Nat.le_of_ble_eq_true rfl, Nat.le_of_ble_eq_true rfl⟩) (Nat.le_of_ble_eq_true rfl) dX6_payWay_115 ?_
          refine g_istore hC [(10, .int (cf I2 (I2 10 (tn (rT I2 nr at9 (tn (I 19 r))))) (tn (I 14 (tn (I 20 a)))) (I 21 a))), (9, .int (rT I2 nr at9 (tn (I 19 r)))), (8, .int (nI i)), (7, .int (nI at9)), (6, .int (nI (tn (I 19 r)))), (5, .int (I 21 a)), (4, .int (nI (tn (I 20 a)))), (0, .ref (G.2.1 0)), (1, .int (nI a)), (2, .int (nI r)), (3, .int (nI j))] dX6_payWay_118 (by decide) rfl ?_
          refine g_aload_n hC dX6_payWay_120 rfl 7 rfl ?_
          refine gf_X6_40 hC dX6_payWay_121 ?_
          refine g_iload_n hC dX6_payWay_124 rfl 10 rfl ?_
          refine g_aload_n hC dX6_payWay_125 rfl 7 rfl ?_
          refine gf_X6_10 hC dX6_payWay_126 ?_
          refine gf_X6_290 hC dX6_payWay_129 ?_
          refine g_iload hC dX6_payWay_132 1 rfl ?_
          refine g_eqI (x' := nI (tn (rT I2 nr at9 (tn (I 19 r))))) hq.2.1 ?_
          refine n_iald hC 11 aa_11 (tn (rT I2 nr at9 (tn (I 19 r)))) (show tn (rT I2 nr at9 (tn (I 19 r))) < 24 by omega) dX6_payWay_134 ?_
          refine g_eqI (x' := nI (tn (I2 11 (tn (rT I2 nr at9 (tn (I 19 r))))))) ho.2 ?_
          refine g_iload hC dX6_payWay_135 0 rfl ?_
          refine g_cV hC [.int (nI j), .int (nI (tn (I2 11 (tn (rT I2 nr at9 (tn (I 19 r))))))), .int (cf I2 (I2 10 (tn (rT I2 nr at9 (tn (I 19 r))))) (tn (I 14 (tn (I 20 a)))) (I 21 a))] 5 (m_X1_pay hl hG V I2 J j (tn (I2 11 (tn (rT I2 nr at9 (tn (I 19 r)))))) (cf I2 (I2 10 (tn (rT I2 nr at9 (tn (I 19 r))))) (tn (I 14 (tn (I 20 a)))) (I 21 a)) (by omega) ho1) rfl (st2 := []) rfl (by decide) rfl rfl rfl tw_322 tw_323 tw_324 tw_36 tw_325 pd_X1_pay ⟨rfl, rfl⟩ (by rw [hRm]; exact ⟨Nat.le_of_ble_eq_true rfl, Nat.le_of_ble_eq_true rfl, Nat.le_of_ble_eq_true rfl, Nat.le_of_ble_eq_true rfl⟩) (Nat.le_of_ble_eq_true rfl) dX6_payWay_137 ?_
          refine g_aload_n hC dX6_payWay_140 rfl 7 rfl ?_
          refine gf_X6_10 hC dX6_payWay_141 ?_
          refine g_iload hC dX6_payWay_144 1 rfl ?_
          refine g_eqI (x' := nI (tn (rT I2 nr at9 (tn (I 19 r))))) hq.2.1 ?_
          refine g_iload hC dX6_payWay_146 3 rfl ?_
          refine g_cV hC [.int (nI (tn (rT I2 nr at9 (tn (I 19 r))))), .int (nI at9)] 1 (m_X4_otherEnd hl hG V (sI I2 (47 + (tn (I2 11 (tn (rT I2 nr at9 (tn (I 19 r))))))) j (I2 (47 + (tn (I2 11 (tn (rT I2 nr at9 (tn (I 19 r))))))) j + cf I2 (I2 10 (tn (rT I2 nr at9 (tn (I 19 r))))) (tn (I 14 (tn (I 20 a)))) (I 21 a))) J (tn (rT I2 nr at9 (tn (I 19 r)))) (nI at9) (by omega)) rfl (st2 := [.int (oE (sI I2 (47 + (tn (I2 11 (tn (rT I2 nr at9 (tn (I 19 r))))))) j (I2 (47 + (tn (I2 11 (tn (rT I2 nr at9 (tn (I 19 r))))))) j + cf I2 (I2 10 (tn (rT I2 nr at9 (tn (I 19 r))))) (tn (I 14 (tn (I 20 a)))) (I 21 a))) (tn (rT I2 nr at9 (tn (I 19 r)))) (nI at9))]) rfl (by decide) rfl rfl rfl tw_326 tw_312 tw_313 tw_32 tw_314 pd_X4_otherEnd ⟨rfl, rfl⟩ (by rw [hRm]; exact ⟨Nat.le_of_ble_eq_true rfl, Nat.le_of_ble_eq_true rfl, Nat.le_of_ble_eq_true rfl, Nat.le_of_ble_eq_true rfl⟩) (Nat.le_of_ble_eq_true rfl) dX6_payWay_148 ?_
          refine g_eqI (x' := nI (tn (oE I2 (tn (rT I2 nr at9 (tn (I 19 r)))) (nI at9)))) ((oE_sI (by omega)).trans hq2.2) ?_
          refine g_istore hC [(7, .int (nI (tn (oE I2 (tn (rT I2 nr at9 (tn (I 19 r)))) (nI at9))))), (10, .int (cf I2 (I2 10 (tn (rT I2 nr at9 (tn (I 19 r))))) (tn (I 14 (tn (I 20 a)))) (I 21 a))), (9, .int (rT I2 nr at9 (tn (I 19 r)))), (8, .int (nI i)), (6, .int (nI (tn (I 19 r)))), (5, .int (I 21 a)), (4, .int (nI (tn (I 20 a)))), (0, .ref (G.2.1 0)), (1, .int (nI a)), (2, .int (nI r)), (3, .int (nI j))] dX6_payWay_151 (by decide) rfl ?_
          refine g_iinc (v := nI (i + 1)) hC [(8, .int (nI (i + 1))), (7, .int (nI (tn (oE I2 (tn (rT I2 nr at9 (tn (I 19 r)))) (nI at9))))), (10, .int (cf I2 (I2 10 (tn (rT I2 nr at9 (tn (I 19 r))))) (tn (I 14 (tn (I 20 a)))) (I 21 a))), (9, .int (rT I2 nr at9 (tn (I 19 r)))), (6, .int (nI (tn (I 19 r)))), (5, .int (I 21 a)), (4, .int (nI (tn (I 20 a)))), (0, .ref (G.2.1 0)), (1, .int (nI a)), (2, .int (nI r)), (3, .int (nI j))] dX6_payWay_153 3 rfl (nI_i1 _) (by decide) rfl ?_
          refine g_goto hC 62 dX6_payWay_156 (by decide) ?_
          refine g_lv [0, 1, 4, 5, 6, 7, 8, 9, 10] (lv2 := [(8, .int (nI (i + 1))), (7, .int (nI (tn (oE I2 (tn (rT I2 nr at9 (tn (I 19 r)))) (nI at9))))), (6, .int (nI (tn (I 19 r)))), (5, .int (I 21 a)), (4, .int (nI (tn (I 20 a)))), (0, .ref (G.2.1 0)), (1, .int (nI a)), (2, .int (nI r)), (3, .int (nI j))]) rfl ?_
          exact ih (i + 1) (tn (oE I2 (tn (rT I2 nr at9 (tn (I 19 r)))) (nI at9))) (sI I2 (47 + (tn (I2 11 (tn (rT I2 nr at9 (tn (I 19 r))))))) j (I2 (47 + (tn (I2 11 (tn (rT I2 nr at9 (tn (I 19 r))))))) j + cf I2 (I2 10 (tn (rT I2 nr at9 (tn (I 19 r))))) (tn (I 14 (tn (I 20 a)))) (I 21 a))) (by omega) (by omega) hq2.1 (eqx_tr he (eqx_u I2 (by omega))) hx (by rw [hst (by omega), if_neg c_85, ← hq2.2])
        · exact g_vret hC hr dX6_payWay_88 (Nat.le_of_ble_eq_true rfl) (Nat.le_of_ble_eq_true rfl) ⟨rfl, rfl, by rw [hst (by omega), if_pos c_85], rfl⟩
  refine g_aload_n hC dX6_payWay_0 rfl 0 rfl ?_
  refine gf_X6_33 hC dX6_payWay_1 ?_
  refine gf_X6_208 hC dX6_payWay_4 ?_
  refine g_iload_n hC dX6_payWay_7 rfl 1 rfl ?_
  refine n_iald hC 20 aa_20 a (show a < 100 by omega) dX6_payWay_8 ?_
  refine g_eqI (x' := nI (tn (I 20 a))) pa2 ?_
  refine g_istore hC [(4, .int (nI (tn (I 20 a)))), (0, .ref (G.2.1 0)), (1, .int (nI a)), (2, .int (nI r)), (3, .int (nI j))] dX6_payWay_9 (by decide) rfl ?_
  refine g_aload_n hC dX6_payWay_11 rfl 1 rfl ?_
  refine gf_X6_33 hC dX6_payWay_12 ?_
  refine gf_X6_211 hC dX6_payWay_15 ?_
  refine g_iload_n hC dX6_payWay_18 rfl 2 rfl ?_
  refine n_iald hC 21 aa_21 a (show a < 100 by omega) dX6_payWay_19 ?_
  refine g_istore hC [(5, .int (I 21 a)), (4, .int (nI (tn (I 20 a)))), (0, .ref (G.2.1 0)), (1, .int (nI a)), (2, .int (nI r)), (3, .int (nI j))] dX6_payWay_20 (by decide) rfl ?_
  refine g_aload_n hC dX6_payWay_22 rfl 2 rfl ?_
  refine gf_X6_26 hC dX6_payWay_23 ?_
  refine g_iload hC dX6_payWay_26 1 rfl ?_
  refine g_iload hC dX6_payWay_28 0 rfl ?_
  refine g_cV hC [.int (nI (tn (I 20 a))), .int (I 21 a)] 3 (m_X2_isExempt hl hG V I J ns (nI (tn (I 20 a))) (I 21 a) v4 w3) rfl (st2 := [.int ((if an (ec I (nI (tn (I 20 a))) (I 21 a)) ns = true then nI 1 else nI 0))]) rfl (by decide) rfl rfl rfl tw_303 tw_304 tw_305 tw_34 tw_306 pd_X2_isExempt ⟨rfl, rfl⟩ (by rw [hRm]; exact ⟨Nat.le_of_ble_eq_true rfl, Nat.le_of_ble_eq_true rfl, Nat.le_of_ble_eq_true rfl, Nat.le_of_ble_eq_true rfl⟩) (Nat.le_of_ble_eq_true rfl) dX6_payWay_30 ?_
  refine g_if_eq hC 37 dX6_payWay_33 (by decide) (fun c_33 => ?_) (fun c_33 => ?_)
  · have hb := ite10_f c_33
    rw [← pa2] at hb
    refine g_aload_n hC dX6_payWay_37 rfl 2 rfl ?_
    refine gf_X6_33 hC dX6_payWay_38 ?_
    refine gf_X6_205 hC dX6_payWay_41 ?_
    refine g_iload_n hC dX6_payWay_44 rfl 4 rfl ?_
    refine n_iald hC 19 aa_19 r (show r < 100 by omega) dX6_payWay_45 ?_
    refine g_eqI (x' := nI (tn (I 19 r))) gr2 ?_
    refine g_istore hC [(6, .int (nI (tn (I 19 r)))), (5, .int (I 21 a)), (4, .int (nI (tn (I 20 a)))), (0, .ref (G.2.1 0)), (1, .int (nI a)), (2, .int (nI r)), (3, .int (nI j))] dX6_payWay_46 (by decide) rfl ?_
    refine g_aload_n hC dX6_payWay_48 rfl 3 rfl ?_
    refine gf_X6_33 hC dX6_payWay_49 ?_
    refine gf_X6_205 hC dX6_payWay_52 ?_
    refine g_iload_n hC dX6_payWay_55 rfl 4 rfl ?_
    refine n_iald hC 19 aa_19 a (show a < 100 by omega) dX6_payWay_56 ?_
    refine g_eqI (x' := nI (tn (I 19 a))) ga2 ?_
    refine g_istore hC [(7, .int (nI (tn (I 19 a)))), (6, .int (nI (tn (I 19 r)))), (5, .int (I 21 a)), (4, .int (nI (tn (I 20 a)))), (0, .ref (G.2.1 0)), (1, .int (nI a)), (2, .int (nI r)), (3, .int (nI j))] dX6_payWay_57 (by decide) rfl ?_
    refine g_iconst (v := nI 0) hC dX6_payWay_59 (by decide) ?_
    refine g_istore hC [(8, .int (nI 0)), (7, .int (nI (tn (I 19 a)))), (6, .int (nI (tn (I 19 r)))), (5, .int (I 21 a)), (4, .int (nI (tn (I 20 a)))), (0, .ref (G.2.1 0)), (1, .int (nI a)), (2, .int (nI r)), (3, .int (nI j))] dX6_payWay_60 (by decide) rfl ?_
    refine g_at rfl (lv2 := [(8, .int (nI 0)), (7, .int (nI (tn (I 19 a)))), (6, .int (nI (tn (I 19 r)))), (5, .int (I 21 a)), (4, .int (nI (tn (I 20 a)))), (0, .ref (G.2.1 0)), (1, .int (nI a)), (2, .int (nI r)), (3, .int (nI j))]) rfl rfl ?_
    exact lp_62 13 0 (tn (I 19 a)) I (by omega) (by omega) ga1 (eqx_rf I) hb (by unfold pw; rw [if_neg hb, ← ga2])
  · have hb := ite10_t c_33
    rw [← pa2] at hb
    exact g_vret hC hr dX6_payWay_36 (Nat.le_of_ble_eq_true rfl) (Nat.le_of_ble_eq_true rfl) ⟨rfl, rfl, by unfold pw; rw [if_pos hb], rfl⟩
