set_option maxRecDepth 100000 in
theorem m_X7_thrown {l : Launch} {G : wG} (hl : l.stackTraces = false) (hG : wD G) (V : wV) (I : wI) (J : wJ)  : Ctr l yX7_thrown cX7_thrown 1 (some .int) { frames := 0, cells := 0, slots := 0, locals := 0 } G [.ref (G.2.1 7)] V I J (pU (some (.int (V 7))) V I J) (noX) := by
  refine ctr_of hl hG (by decide) (Nat.le_of_ble_eq_true rfl) [(0, .ref (G.2.1 7))] rfl ?_
  intro K hC hKl hRm hr hT
  subst hKl
  have hC : Cx K G RX7 cX7_thrown 1 := hC
  refine g_aload_n hC dX7_thrown_0 rfl 0 rfl ?_
  refine gf_X7_103 hC dX7_thrown_1 ?_
  exact g_iret hC hr dX7_thrown_4 (Nat.le_of_ble_eq_true rfl) (Nat.le_of_ble_eq_true rfl) ⟨rfl, rfl, rfl, rfl⟩

set_option maxRecDepth 100000 in
theorem m_X7_in {l : Launch} {G : wG} (hl : l.stackTraces = false) (hG : wD G) (V : wV) (I : wI) (J : wJ) (v lo hi : Int32) : Ctr l yX7_in cX7_in 3 (some .boolean) { frames := 0, cells := 0, slots := 0, locals := 0 } G [.int v, .int lo, .int hi] V I J (pU (some (.int (if rgB v lo hi = true then nI 1 else nI 0))) V I J) (noX) := by
  refine ctr_of hl hG (by decide) (Nat.le_of_ble_eq_true rfl) [(0, .int v), (1, .int lo), (2, .int hi)] rfl ?_
  intro K hC hKl hRm hr hT
  subst hKl
  have hC : Cx K G RX7 cX7_in 3 := hC
  refine g_iload_n hC dX7_in_0 rfl 0 rfl ?_
  refine g_iload_n hC dX7_in_1 rfl 1 rfl ?_
  refine g_icmp_lt hC 14 dX7_in_2 (by decide) (fun c_2 => ?_) (fun c_2 => ?_)
  · refine g_iconst (v := nI 0) hC dX7_in_14 (by decide) ?_
    exact g_zret hC (by first | exact Or.inl rfl | exact Or.inr rfl) hr dX7_in_15 (Nat.le_of_ble_eq_true rfl) (Nat.le_of_ble_eq_true rfl) ⟨by first | (rw [rgB_t c_2 (le_of_nlt c_7)] <;> rfl) | (rw [rgB_f (Or.inl c_2)] <;> rfl) | (rw [rgB_f (Or.inr (nle_of_lt c_7))] <;> rfl), rfl, rfl, rfl⟩
  · refine g_iload_n hC dX7_in_5 rfl 0 rfl ?_
    refine g_iload_n hC dX7_in_6 rfl 2 rfl ?_
    refine g_icmp_gt hC 14 dX7_in_7 (by decide) (fun c_7 => ?_) (fun c_7 => ?_)
    · refine g_iconst (v := nI 0) hC dX7_in_14 (by decide) ?_
      exact g_zret hC (by first | exact Or.inl rfl | exact Or.inr rfl) hr dX7_in_15 (Nat.le_of_ble_eq_true rfl) (Nat.le_of_ble_eq_true rfl) ⟨by first | (rw [rgB_t c_2 (le_of_nlt c_7)] <;> rfl) | (rw [rgB_f (Or.inl c_2)] <;> rfl) | (rw [rgB_f (Or.inr (nle_of_lt c_7))] <;> rfl), rfl, rfl, rfl⟩
    · refine g_iconst (v := nI 1) hC dX7_in_10 (by decide) ?_
      refine g_goto hC 15 dX7_in_11 (by decide) ?_
      exact g_zret hC (by first | exact Or.inl rfl | exact Or.inr rfl) hr dX7_in_15 (Nat.le_of_ble_eq_true rfl) (Nat.le_of_ble_eq_true rfl) ⟨by first | (rw [rgB_t c_2 (le_of_nlt c_7)] <;> rfl) | (rw [rgB_f (Or.inl c_2)] <;> rfl) | (rw [rgB_f (Or.inr (nle_of_lt c_7))] <;> rfl), rfl, rfl, rfl⟩

set_option maxRecDepth 100000 in
theorem m_X7_isGate {l : Launch} {G : wG} (hl : l.stackTraces = false) (hG : wD G) (V : wV) (I : wI) (J : wJ) (ng : Nat) (p1 : Int32) (v9 : V 9 = nI ng) (hg : ng ≤ 1000) : Ctr l yX7_isGate cX7_isGate 2 (some .boolean) { frames := 1, cells := 0, slots := 0, locals := 22 } G [.ref (G.2.1 7), .int p1] V I J (pU (some (.int (if inB p1 ng = true then nI 1 else nI 0))) V I J) (noX) := by
  refine ctr_of hl hG (by decide) (Nat.le_of_ble_eq_true rfl) [(0, .ref (G.2.1 7)), (1, .int p1)] rfl ?_
  intro K hC hKl hRm hr hT
  subst hKl
  have hC : Cx K G RX7 cX7_isGate 2 := hC
  refine g_iload_n hC dX7_isGate_0 rfl 1 rfl ?_
  refine g_iconst (v := nI 0) hC dX7_isGate_1 (by decide) ?_
  refine g_aload_n hC dX7_isGate_2 rfl 0 rfl ?_
  refine gf_X7_106 hC dX7_isGate_3 ?_
  refine g_eqI (x' := nI ng) (by rw [v9]) ?_
  refine g_iconst (v := nI 1) hC dX7_isGate_6 (by decide) ?_
  refine g_isub hC dX7_isGate_7 ?_
  refine g_cS hC [.int p1, .int (nI 0), .int ((nI ng) - (nI 1))] (m_X7_in hl hG V I J p1 (nI 0) ((nI ng) - (nI 1))) rfl (st2 := [.int ((if rgB p1 (nI 0) ((nI ng) - (nI 1)) = true then nI 1 else nI 0))]) rfl rfl tw_819 tw_820 tw_38 tw_821 pd_X7_in ⟨rfl, rfl⟩ (by rw [hRm]; exact ⟨Nat.le_of_ble_eq_true rfl, Nat.le_of_ble_eq_true rfl, Nat.le_of_ble_eq_true rfl, Nat.le_of_ble_eq_true rfl⟩) (Nat.le_of_ble_eq_true rfl) dX7_isGate_8 ?_
  exact g_zret hC (by split; exact Or.inr rfl; exact Or.inl rfl) hr dX7_isGate_11 (Nat.le_of_ble_eq_true rfl) (Nat.le_of_ble_eq_true rfl) ⟨by rw [rg_in hg], rfl, rfl, rfl⟩

set_option maxRecDepth 100000 in
theorem m_X7_isReading {l : Launch} {G : wG} (hl : l.stackTraces = false) (hG : wD G) (V : wV) (I : wI) (J : wJ) (n : Nat) (p1 : Int32) (v13 : V 13 = nI n) (hg : n ≤ 1000) : Ctr l yX7_isReading cX7_isReading 2 (some .boolean) { frames := 1, cells := 0, slots := 0, locals := 22 } G [.ref (G.2.1 7), .int p1] V I J (pU (some (.int (if inB p1 n = true then nI 1 else nI 0))) V I J) (noX) := by
  refine ctr_of hl hG (by decide) (Nat.le_of_ble_eq_true rfl) [(0, .ref (G.2.1 7)), (1, .int p1)] rfl ?_
  intro K hC hKl hRm hr hT
  subst hKl
  have hC : Cx K G RX7 cX7_isReading 2 := hC
  refine g_iload_n hC dX7_isReading_0 rfl 1 rfl ?_
  refine g_iconst (v := nI 0) hC dX7_isReading_1 (by decide) ?_
  refine g_aload_n hC dX7_isReading_2 rfl 0 rfl ?_
  refine gf_X7_113 hC dX7_isReading_3 ?_
  refine g_eqI (x' := nI n) (by rw [v13]) ?_
  refine g_iconst (v := nI 1) hC dX7_isReading_6 (by decide) ?_
  refine g_isub hC dX7_isReading_7 ?_
  refine g_cS hC [.int p1, .int (nI 0), .int ((nI n) - (nI 1))] (m_X7_in hl hG V I J p1 (nI 0) ((nI n) - (nI 1))) rfl (st2 := [.int ((if rgB p1 (nI 0) ((nI n) - (nI 1)) = true then nI 1 else nI 0))]) rfl rfl tw_819 tw_820 tw_38 tw_821 pd_X7_in ⟨rfl, rfl⟩ (by rw [hRm]; exact ⟨Nat.le_of_ble_eq_true rfl, Nat.le_of_ble_eq_true rfl, Nat.le_of_ble_eq_true rfl, Nat.le_of_ble_eq_true rfl⟩) (Nat.le_of_ble_eq_true rfl) dX7_isReading_8 ?_
  exact g_zret hC (by split; exact Or.inr rfl; exact Or.inl rfl) hr dX7_isReading_11 (Nat.le_of_ble_eq_true rfl) (Nat.le_of_ble_eq_true rfl) ⟨by rw [rg_in hg], rfl, rfl, rfl⟩

set_option maxRecDepth 100000 in
theorem m_X7_isPlate {l : Launch} {G : wG} (hl : l.stackTraces = false) (hG : wD G) (V : wV) (I : wI) (J : wJ) (p1 : Int32) : Ctr l yX7_isPlate cX7_isPlate 1 (some .boolean) { frames := 1, cells := 0, slots := 0, locals := 22 } G [.int p1] V I J (pU (some (.int (if inB p1 10 = true then nI 1 else nI 0))) V I J) (noX) := by
  refine ctr_of hl hG (by decide) (Nat.le_of_ble_eq_true rfl) [(0, .int p1)] rfl ?_
  intro K hC hKl hRm hr hT
  subst hKl
  have hC : Cx K G RX7 cX7_isPlate 1 := hC
  refine g_iload_n hC dX7_isPlate_0 rfl 0 rfl ?_
  refine g_iconst (v := nI 0) hC dX7_isPlate_1 (by decide) ?_
  refine g_bipush (v := nI 9) hC dX7_isPlate_2 (by decide) ?_
  refine g_cS hC [.int p1, .int (nI 0), .int (nI 9)] (m_X7_in hl hG V I J p1 (nI 0) (nI 9)) rfl (st2 := [.int ((if rgB p1 (nI 0) (nI 9) = true then nI 1 else nI 0))]) rfl rfl tw_819 tw_820 tw_38 tw_821 pd_X7_in ⟨rfl, rfl⟩ (by rw [hRm]; exact ⟨Nat.le_of_ble_eq_true rfl, Nat.le_of_ble_eq_true rfl, Nat.le_of_ble_eq_true rfl, Nat.le_of_ble_eq_true rfl⟩) (Nat.le_of_ble_eq_true rfl) dX7_isPlate_4 ?_
  exact g_zret hC (by split; exact Or.inr rfl; exact Or.inl rfl) hr dX7_isPlate_7 (Nat.le_of_ble_eq_true rfl) (Nat.le_of_ble_eq_true rfl) ⟨by rw [rg_in2 (by omega)], rfl, rfl, rfl⟩

set_option maxRecDepth 100000 in
theorem m_X7_isHolder {l : Launch} {G : wG} (hl : l.stackTraces = false) (hG : wD G) (V : wV) (I : wI) (J : wJ) (p1 : Int32) : Ctr l yX7_isHolder cX7_isHolder 1 (some .boolean) { frames := 1, cells := 0, slots := 0, locals := 22 } G [.int p1] V I J (pU (some (.int (if inB p1 6 = true then nI 1 else nI 0))) V I J) (noX) := by
  refine ctr_of hl hG (by decide) (Nat.le_of_ble_eq_true rfl) [(0, .int p1)] rfl ?_
  intro K hC hKl hRm hr hT
  subst hKl
  have hC : Cx K G RX7 cX7_isHolder 1 := hC
  refine g_iload_n hC dX7_isHolder_0 rfl 0 rfl ?_
  refine g_iconst (v := nI 0) hC dX7_isHolder_1 (by decide) ?_
  refine g_iconst (v := nI 5) hC dX7_isHolder_2 (by decide) ?_
  refine g_cS hC [.int p1, .int (nI 0), .int (nI 5)] (m_X7_in hl hG V I J p1 (nI 0) (nI 5)) rfl (st2 := [.int ((if rgB p1 (nI 0) (nI 5) = true then nI 1 else nI 0))]) rfl rfl tw_819 tw_820 tw_38 tw_821 pd_X7_in ⟨rfl, rfl⟩ (by rw [hRm]; exact ⟨Nat.le_of_ble_eq_true rfl, Nat.le_of_ble_eq_true rfl, Nat.le_of_ble_eq_true rfl, Nat.le_of_ble_eq_true rfl⟩) (Nat.le_of_ble_eq_true rfl) dX7_isHolder_3 ?_
  exact g_zret hC (by split; exact Or.inr rfl; exact Or.inl rfl) hr dX7_isHolder_6 (Nat.le_of_ble_eq_true rfl) (Nat.le_of_ble_eq_true rfl) ⟨by rw [rg_in2 (by omega)], rfl, rfl, rfl⟩

set_option maxRecDepth 100000 in
theorem m_X7_away {l : Launch} {G : wG} (hl : l.stackTraces = false) (hG : wD G) (V : wV) (I : wI) (J : wJ) (a b : Nat) (h1 : a < 12) (h2 : b < 12) : Ctr l yX7_away cX7_away 3 (some .int) { frames := 0, cells := 0, slots := 0, locals := 0 } G [.ref (G.2.1 7), .int (nI a), .int (nI b)] V I J (pU (some (.int (I 55 (12 * a + b)))) V I J) (noX) := by
  refine ctr_of hl hG (by decide) (Nat.le_of_ble_eq_true rfl) [(0, .ref (G.2.1 7)), (1, .int (nI a)), (2, .int (nI b))] rfl ?_
  intro K hC hKl hRm hr hT
  subst hKl
  have hC : Cx K G RX7 cX7_away 3 := hC
  refine g_aload_n hC dX7_away_0 rfl 0 rfl ?_
  refine gf_X7_22 hC dX7_away_1 ?_
  refine g_bipush (v := nI 12) hC dX7_away_4 (by decide) ?_
  refine g_iload_n hC dX7_away_6 rfl 1 rfl ?_
  refine g_imul hC dX7_away_7 ?_
  refine g_eqI (x' := nI (12 * a)) (pk_mul _ _) ?_
  refine g_iload_n hC dX7_away_8 rfl 2 rfl ?_
  refine g_iadd hC dX7_away_9 ?_
  refine g_eqI (x' := nI ((12 * a) + b)) (nI_add _ _) ?_
  refine n_iald hC 55 aa_55 ((12 * a) + b) (show (12 * a) + b < 144 by omega) dX7_away_10 ?_
  exact g_iret hC hr dX7_away_11 (Nat.le_of_ble_eq_true rfl) (Nat.le_of_ble_eq_true rfl) ⟨rfl, rfl, rfl, rfl⟩

set_option maxRecDepth 100000 in
theorem m_X7_otherEnd {l : Launch} {G : wG} (hl : l.stackTraces = false) (hG : wD G) (V : wV) (I : wI) (J : wJ) (hmI : mI I) (nr r : Nat) (p2 : Int32) (h1 : r < nr) (hw : wfR I nr) (hq : ¬ oE I r p2 = -1) : Ctr l yX7_otherEnd cX7_otherEnd 3 (some .int) { frames := 0, cells := 0, slots := 0, locals := 0 } G [.ref (G.2.1 7), .int (nI r), .int p2] V I J (pU (some (.int (oE I r p2))) V I J) (noX) := by
  refine ctr_of hl hG (by decide) (Nat.le_of_ble_eq_true rfl) [(0, .ref (G.2.1 7)), (1, .int (nI r)), (2, .int p2)] rfl ?_
  intro K hC hKl hRm hr hT
  subst hKl
  have hC : Cx K G RX7 cX7_otherEnd 3 := hC
  obtain ⟨m51, m52, m53, m54, m56, m57, m58, m59, m64, m65, m66, m67, m68, m69, m70⟩ := id hmI
  have hw24 := hw.1
  refine g_aload_n hC dX7_otherEnd_0 rfl 0 rfl ?_
  refine gf_X7_7 hC dX7_otherEnd_1 ?_
  refine g_iload_n hC dX7_otherEnd_4 rfl 1 rfl ?_
  refine n_iald hC 51 aa_51 r (show r < 24 by omega) dX7_otherEnd_5 ?_
  refine g_eqI (x' := I 8 r) (by rw [m51]) ?_
  refine g_iload_n hC dX7_otherEnd_6 rfl 2 rfl ?_
  refine g_icmp_ne hC 19 dX7_otherEnd_7 (by decide) (fun c_7 => ?_) (fun c_7 => ?_)
  · refine g_aload_n hC dX7_otherEnd_19 rfl 0 rfl ?_
    refine gf_X7_7 hC dX7_otherEnd_20 ?_
    refine g_iload_n hC dX7_otherEnd_23 rfl 1 rfl ?_
    refine n_iald hC 51 aa_51 r (show r < 24 by omega) dX7_otherEnd_24 ?_
    refine g_eqI (x' := I 8 r) (by rw [m51]) ?_
    exact g_iret hC hr dX7_otherEnd_25 (Nat.le_of_ble_eq_true rfl) (Nat.le_of_ble_eq_true rfl) ⟨by unfold oE at hq ⊢; first | rw [if_pos c_7] | (rw [if_neg c_7] at hq ⊢; split at hq; (rename_i z; rw [if_pos z]); exact absurd rfl hq), rfl, rfl, rfl⟩
  · refine g_aload_n hC dX7_otherEnd_10 rfl 0 rfl ?_
    refine gf_X7_13 hC dX7_otherEnd_11 ?_
    refine g_iload_n hC dX7_otherEnd_14 rfl 1 rfl ?_
    refine n_iald hC 52 aa_52 r (show r < 24 by omega) dX7_otherEnd_15 ?_
    refine g_eqI (x' := I 9 r) (by rw [m52]) ?_
    refine g_goto hC 25 dX7_otherEnd_16 (by decide) ?_
    exact g_iret hC hr dX7_otherEnd_25 (Nat.le_of_ble_eq_true rfl) (Nat.le_of_ble_eq_true rfl) ⟨by unfold oE at hq ⊢; first | rw [if_pos c_7] | (rw [if_neg c_7] at hq ⊢; split at hq; (rename_i z; rw [if_pos z]); exact absurd rfl hq), rfl, rfl, rfl⟩

set_option maxRecDepth 100000 in
theorem m_X7_next {l : Launch} {G : wG} (hl : l.stackTraces = false) (hG : wD G) (V : wV) (I : wI) (J : wJ) (n g goal : Nat) (v10 : V 10 = nI n) (hmI : mI I) (hmF : mF I) (hw : wfR I n) (h2 : g < 12) (h3 : goal < 12) (hs : ∀ r, r < n → rc I goal goal r = false) : Ctr l yX7_next cX7_next 7 (some .int) { frames := 1, cells := 0, slots := 0, locals := 22 } G [.ref (G.2.1 7), .int (nI g), .int (nI goal)] V I J (pU (some (.int (rT I n g goal))) V I J) (noX) := by
  refine ctr_of hl hG (by decide) (Nat.le_of_ble_eq_true rfl) [(0, .ref (G.2.1 7)), (1, .int (nI g)), (2, .int (nI goal))] rfl ?_
  intro K hC hKl hRm hr hT
  subst hKl
  have hC : Cx K G RX7 cX7_next 7 := hC
  obtain ⟨m51, m52, m53, m54, m56, m57, m58, m59, m64, m65, m66, m67, m68, m69, m70⟩ := id hmI
  have hw24 := hw.1
  have lp_10 : ∀ (k9 : Nat) (k : Nat) (x : Int32) (hx : x = nI k - nI 1) (hk : k ≤ n) (hk9 : k < k9), WW K G 0 0 (QM K G { frames := 1, cells := 0, slots := 0, locals := 22 } (pU (some (.int (rT I n g goal))) V I J) (noX)) V I J 10 [(4, .int x), (3, .int (fi (rc I g goal) (n - k) k)), (0, .ref (G.2.1 7)), (1, .int (nI g)), (2, .int (nI goal))] [] := by
    intro k9
    induction k9 with
    | zero =>
      intro k x hx hk hk9
      omega
    | succ k9 ih =>
      intro k x hx hk hk9
      refine g_iload hC dX7_next_10 0 rfl ?_
      refine g_if_lt hC 120 dX7_next_12 (by decide) (fun c_12 => ?_) (fun c_12 => ?_)
      · refine g_iload_n hC dX7_next_120 rfl 1 rfl ?_
        exact g_iret hC hr dX7_next_121 (Nat.le_of_ble_eq_true rfl) (Nat.le_of_ble_eq_true rfl) ⟨by rw [show k = 0 from dn_z hx c_12 (by omega)]; rfl, rfl, rfl, rfl⟩
      · obtain ⟨j, ek, ex⟩ := dn_x hx c_12 (by omega)
        subst ek
        subst ex
        clear hx
        refine g_aload_n hC dX7_next_15 rfl 2 rfl ?_
        refine gf_X7_7 hC dX7_next_16 ?_
        refine g_iload hC dX7_next_19 0 rfl ?_
        refine n_iald hC 51 aa_51 j (show j < 24 by omega) dX7_next_21 ?_
        refine g_eqI (x' := I 8 j) (by rw [m51]) ?_
        refine g_iload_n hC dX7_next_22 rfl 3 rfl ?_
        refine g_icmp_ne hC 36 dX7_next_23 (by decide) (fun c_23 => ?_) (fun c_23 => ?_)
        · refine g_aload_n hC dX7_next_36 rfl 2 rfl ?_
          refine gf_X7_13 hC dX7_next_37 ?_
          refine g_iload hC dX7_next_40 0 rfl ?_
          refine n_iald hC 52 aa_52 j (show j < 24 by omega) dX7_next_42 ?_
          refine g_eqI (x' := I 9 j) (by rw [m52]) ?_
          refine g_iload_n hC dX7_next_43 rfl 3 rfl ?_
          refine g_icmp_ne hC 57 dX7_next_44 (by decide) (fun c_44 => ?_) (fun c_44 => ?_)
          · refine g_iconst (v := (-1)) hC dX7_next_57 (by decide) ?_
            refine g_eqI (x' := oE I j (nI g)) (by unfold oE; first | rw [if_pos c_23] | rw [if_neg c_23, if_pos c_44] | rw [if_neg c_23, if_neg c_44]) ?_
            refine g_istore hC [(5, .int (oE I j (nI g))), (4, .int (nI j)), (3, .int (fi (rc I g goal) (n - (j + 1)) (j + 1))), (0, .ref (G.2.1 7)), (1, .int (nI g)), (2, .int (nI goal))] dX7_next_58 (by decide) rfl ?_
            refine g_iload hC dX7_next_60 0 rfl ?_
            refine g_iconst (v := (-1)) hC dX7_next_62 (by decide) ?_
            refine g_icmp_eq hC 99 dX7_next_63 (by decide) (fun c_63 => ?_) (fun c_63 => ?_)
            · have hcj : rc I g goal j = false := rc_f1 c_63
              refine g_iconst (v := nI 0) hC dX7_next_99 (by decide) ?_
              refine g_istore hC [(6, .int (nI 0)), (5, .int (oE I j (nI g))), (4, .int (nI j)), (3, .int (fi (rc I g goal) (n - (j + 1)) (j + 1))), (0, .ref (G.2.1 7)), (1, .int (nI g)), (2, .int (nI goal))] dX7_next_100 (by decide) rfl ?_
              refine g_iload hC dX7_next_102 0 rfl ?_
              refine g_if_eq hC 112 dX7_next_104 (by decide) (fun c_104 => ?_) (fun c_104 => ?_)
              · refine g_iload_n hC dX7_next_112 rfl 3 rfl ?_
                refine g_istore_n hC [(3, .int (fi (rc I g goal) (n - (j + 1)) (j + 1))), (6, .int (nI 0)), (5, .int (oE I j (nI g))), (4, .int (nI j)), (0, .ref (G.2.1 7)), (1, .int (nI g)), (2, .int (nI goal))] dX7_next_113 rfl (by decide) rfl ?_
                refine g_iinc (v := nI j - nI 1) hC [(4, .int (nI j - nI 1)), (3, .int (fi (rc I g goal) (n - (j + 1)) (j + 1))), (6, .int (nI 0)), (5, .int (oE I j (nI g))), (0, .ref (G.2.1 7)), (1, .int (nI g)), (2, .int (nI goal))] dX7_next_114 3 rfl (dn_i _) (by decide) rfl ?_
                refine g_goto hC 10 dX7_next_117 (by decide) ?_
                refine g_lv [0, 1, 4, 5, 6] (lv2 := [(4, .int (nI j - nI 1)), (3, .int (fi (rc I g goal) (n - (j + 1)) (j + 1))), (0, .ref (G.2.1 7)), (1, .int (nI g)), (2, .int (nI goal))]) rfl ?_
                refine g_at rfl (lv2 := [(4, .int (nI j - nI 1)), (3, .int (fi (rc I g goal) (n - j) j)), (0, .ref (G.2.1 7)), (1, .int (nI g)), (2, .int (nI goal))]) (by rw [fi_d (show j < n by omega), hcj] <;> rfl) rfl ?_
                exact ih j _ rfl (by omega) (by omega)
              · exact absurd c_104 (by decide)
            · have hq := oE_nI hw (show j < n by omega) c_63
              have hq1 := hq.1
              refine g_iload_n hC dX7_next_66 rfl 4 rfl ?_
              refine g_iload_n hC dX7_next_67 rfl 5 rfl ?_
              refine g_icmp_eq hC 99 dX7_next_68 (by decide) (fun c_68 => ?_) (fun c_68 => ?_)
              · have d_68 : g = goal := (nI_eq (by omega) (by omega)).mp c_68
                have hcj : rc I g goal j = false := by rw [show g = goal by omega]; exact hs j (by omega)
                refine g_iconst (v := nI 0) hC dX7_next_99 (by decide) ?_
                refine g_istore hC [(6, .int (nI 0)), (5, .int (oE I j (nI g))), (4, .int (nI j)), (3, .int (fi (rc I g goal) (n - (j + 1)) (j + 1))), (0, .ref (G.2.1 7)), (1, .int (nI g)), (2, .int (nI goal))] dX7_next_100 (by decide) rfl ?_
                refine g_iload hC dX7_next_102 0 rfl ?_
                refine g_if_eq hC 112 dX7_next_104 (by decide) (fun c_104 => ?_) (fun c_104 => ?_)
                · refine g_iload_n hC dX7_next_112 rfl 3 rfl ?_
                  refine g_istore_n hC [(3, .int (fi (rc I g goal) (n - (j + 1)) (j + 1))), (6, .int (nI 0)), (5, .int (oE I j (nI g))), (4, .int (nI j)), (0, .ref (G.2.1 7)), (1, .int (nI g)), (2, .int (nI goal))] dX7_next_113 rfl (by decide) rfl ?_
                  refine g_iinc (v := nI j - nI 1) hC [(4, .int (nI j - nI 1)), (3, .int (fi (rc I g goal) (n - (j + 1)) (j + 1))), (6, .int (nI 0)), (5, .int (oE I j (nI g))), (0, .ref (G.2.1 7)), (1, .int (nI g)), (2, .int (nI goal))] dX7_next_114 3 rfl (dn_i _) (by decide) rfl ?_
                  refine g_goto hC 10 dX7_next_117 (by decide) ?_
                  refine g_lv [0, 1, 4, 5, 6] (lv2 := [(4, .int (nI j - nI 1)), (3, .int (fi (rc I g goal) (n - (j + 1)) (j + 1))), (0, .ref (G.2.1 7)), (1, .int (nI g)), (2, .int (nI goal))]) rfl ?_
                  refine g_at rfl (lv2 := [(4, .int (nI j - nI 1)), (3, .int (fi (rc I g goal) (n - j) j)), (0, .ref (G.2.1 7)), (1, .int (nI g)), (2, .int (nI goal))]) (by rw [fi_d (show j < n by omega), hcj] <;> rfl) rfl ?_
                  exact ih j _ rfl (by omega) (by omega)
                · exact absurd c_104 (by decide)
              · have d_68 : ¬ g = goal := fun q => c_68 ((nI_eq (by omega) (by omega)).mpr q)
                refine g_aload_n hC dX7_next_71 rfl 3 rfl ?_
                refine g_iload hC dX7_next_72 0 rfl ?_
                refine g_eqI (x' := nI (oE I j (nI g)).toNatClampNeg) hq.2 ?_
                refine g_iload_n hC dX7_next_74 rfl 5 rfl ?_
                refine g_cV hC [.int (nI (oE I j (nI g)).toNatClampNeg), .int (nI goal)] 7 (m_X7_away hl hG V I J ((oE I j (nI g)).toNatClampNeg) goal (by omega) (by omega)) rfl (st2 := [.int (I 55 (12 * ((oE I j (nI g)).toNatClampNeg) + goal))]) rfl (by decide) rfl rfl rfl tw_881 tw_883 tw_21 tw_38 tw_884 pd_X7_away ⟨rfl, rfl⟩ (by rw [hRm]; exact ⟨Nat.le_of_ble_eq_true rfl, Nat.le_of_ble_eq_true rfl, Nat.le_of_ble_eq_true rfl, Nat.le_of_ble_eq_true rfl⟩) (Nat.le_of_ble_eq_true rfl) dX7_next_75 ?_
                refine g_eqI (x' := I (35 + (oE I j (nI g)).toNatClampNeg) goal) (hmF _ _ hq1 h3) ?_
                refine g_aload_n hC dX7_next_78 rfl 3 rfl ?_
                refine gf_X7_16 hC dX7_next_79 ?_
                refine g_iload hC dX7_next_82 1 rfl ?_
                refine n_iald hC 53 aa_53 j (show j < 24 by omega) dX7_next_84 ?_
                refine g_eqI (x' := I 10 j) (by rw [m53]) ?_
                refine g_iadd hC dX7_next_85 ?_
                refine g_aload_n hC dX7_next_86 rfl 3 rfl ?_
                refine g_iload_n hC dX7_next_87 rfl 4 rfl ?_
                refine g_iload_n hC dX7_next_88 rfl 5 rfl ?_
                refine g_cV hC [.int (nI g), .int (nI goal)] 7 (m_X7_away hl hG V I J g goal (by omega) (by omega)) rfl (st2 := [.int (I 55 (12 * g + goal)), .int ((I (35 + (oE I j (nI g)).toNatClampNeg) goal) + (I 10 j))]) rfl (by decide) rfl rfl rfl tw_881 tw_883 tw_21 tw_38 tw_884 pd_X7_away ⟨rfl, rfl⟩ (by rw [hRm]; exact ⟨Nat.le_of_ble_eq_true rfl, Nat.le_of_ble_eq_true rfl, Nat.le_of_ble_eq_true rfl, Nat.le_of_ble_eq_true rfl⟩) (Nat.le_of_ble_eq_true rfl) dX7_next_89 ?_
                refine g_eqI (x' := I (35 + g) goal) (hmF _ _ h2 h3) ?_
                refine g_icmp_ne hC 99 dX7_next_92 (by decide) (fun c_92 => ?_) (fun c_92 => ?_)
                · have hcj : rc I g goal j = false := rc_f2 c_92
                  refine g_iconst (v := nI 0) hC dX7_next_99 (by decide) ?_
                  refine g_istore hC [(6, .int (nI 0)), (5, .int (oE I j (nI g))), (4, .int (nI j)), (3, .int (fi (rc I g goal) (n - (j + 1)) (j + 1))), (0, .ref (G.2.1 7)), (1, .int (nI g)), (2, .int (nI goal))] dX7_next_100 (by decide) rfl ?_
                  refine g_iload hC dX7_next_102 0 rfl ?_
                  refine g_if_eq hC 112 dX7_next_104 (by decide) (fun c_104 => ?_) (fun c_104 => ?_)
                  · refine g_iload_n hC dX7_next_112 rfl 3 rfl ?_
                    refine g_istore_n hC [(3, .int (fi (rc I g goal) (n - (j + 1)) (j + 1))), (6, .int (nI 0)), (5, .int (oE I j (nI g))), (4, .int (nI j)), (0, .ref (G.2.1 7)), (1, .int (nI g)), (2, .int (nI goal))] dX7_next_113 rfl (by decide) rfl ?_
                    refine g_iinc (v := nI j - nI 1) hC [(4, .int (nI j - nI 1)), (3, .int (fi (rc I g goal) (n - (j + 1)) (j + 1))), (6, .int (nI 0)), (5, .int (oE I j (nI g))), (0, .ref (G.2.1 7)), (1, .int (nI g)), (2, .int (nI goal))] dX7_next_114 3 rfl (dn_i _) (by decide) rfl ?_
                    refine g_goto hC 10 dX7_next_117 (by decide) ?_
                    refine g_lv [0, 1, 4, 5, 6] (lv2 := [(4, .int (nI j - nI 1)), (3, .int (fi (rc I g goal) (n - (j + 1)) (j + 1))), (0, .ref (G.2.1 7)), (1, .int (nI g)), (2, .int (nI goal))]) rfl ?_
                    refine g_at rfl (lv2 := [(4, .int (nI j - nI 1)), (3, .int (fi (rc I g goal) (n - j) j)), (0, .ref (G.2.1 7)), (1, .int (nI g)), (2, .int (nI goal))]) (by rw [fi_d (show j < n by omega), hcj] <;> rfl) rfl ?_
                    exact ih j _ rfl (by omega) (by omega)
                  · exact absurd c_104 (by decide)
                · have hcj : rc I g goal j = true := rc_t c_63 c_92
                  refine g_iconst (v := nI 1) hC dX7_next_95 (by decide) ?_
                  refine g_goto hC 100 dX7_next_96 (by decide) ?_
                  refine g_istore hC [(6, .int (nI 1)), (5, .int (oE I j (nI g))), (4, .int (nI j)), (3, .int (fi (rc I g goal) (n - (j + 1)) (j + 1))), (0, .ref (G.2.1 7)), (1, .int (nI g)), (2, .int (nI goal))] dX7_next_100 (by decide) rfl ?_
                  refine g_iload hC dX7_next_102 0 rfl ?_
                  refine g_if_eq hC 112 dX7_next_104 (by decide) (fun c_104 => ?_) (fun c_104 => ?_)
                  · exact absurd c_104 (by decide)
                  · refine g_iload hC dX7_next_107 2 rfl ?_
                    refine g_goto hC 113 dX7_next_109 (by decide) ?_
                    refine g_istore_n hC [(3, .int (nI j)), (6, .int (nI 1)), (5, .int (oE I j (nI g))), (4, .int (nI j)), (0, .ref (G.2.1 7)), (1, .int (nI g)), (2, .int (nI goal))] dX7_next_113 rfl (by decide) rfl ?_
                    refine g_iinc (v := nI j - nI 1) hC [(4, .int (nI j - nI 1)), (3, .int (nI j)), (6, .int (nI 1)), (5, .int (oE I j (nI g))), (0, .ref (G.2.1 7)), (1, .int (nI g)), (2, .int (nI goal))] dX7_next_114 3 rfl (dn_i _) (by decide) rfl ?_
                    refine g_goto hC 10 dX7_next_117 (by decide) ?_
                    refine g_lv [0, 1, 4, 5, 6] (lv2 := [(4, .int (nI j - nI 1)), (3, .int (nI j)), (0, .ref (G.2.1 7)), (1, .int (nI g)), (2, .int (nI goal))]) rfl ?_
                    refine g_at rfl (lv2 := [(4, .int (nI j - nI 1)), (3, .int (fi (rc I g goal) (n - j) j)), (0, .ref (G.2.1 7)), (1, .int (nI g)), (2, .int (nI goal))]) (by rw [fi_d (show j < n by omega), hcj] <;> rfl) rfl ?_
                    exact ih j _ rfl (by omega) (by omega)
          · refine g_aload_n hC dX7_next_47 rfl 2 rfl ?_
            refine gf_X7_7 hC dX7_next_48 ?_
            refine g_iload hC dX7_next_51 0 rfl ?_
            refine n_iald hC 51 aa_51 j (show j < 24 by omega) dX7_next_53 ?_
            refine g_eqI (x' := I 8 j) (by rw [m51]) ?_
            refine g_goto hC 58 dX7_next_54 (by decide) ?_
            refine g_eqI (x' := oE I j (nI g)) (by unfold oE; first | rw [if_pos c_23] | rw [if_neg c_23, if_pos c_44] | rw [if_neg c_23, if_neg c_44]) ?_
            refine g_istore hC [(5, .int (oE I j (nI g))), (4, .int (nI j)), (3, .int (fi (rc I g goal) (n - (j + 1)) (j + 1))), (0, .ref (G.2.1 7)), (1, .int (nI g)), (2, .int (nI goal))] dX7_next_58 (by decide) rfl ?_
            refine g_iload hC dX7_next_60 0 rfl ?_
            refine g_iconst (v := (-1)) hC dX7_next_62 (by decide) ?_
            refine g_icmp_eq hC 99 dX7_next_63 (by decide) (fun c_63 => ?_) (fun c_63 => ?_)
            · have hcj : rc I g goal j = false := rc_f1 c_63
              refine g_iconst (v := nI 0) hC dX7_next_99 (by decide) ?_
              refine g_istore hC [(6, .int (nI 0)), (5, .int (oE I j (nI g))), (4, .int (nI j)), (3, .int (fi (rc I g goal) (n - (j + 1)) (j + 1))), (0, .ref (G.2.1 7)), (1, .int (nI g)), (2, .int (nI goal))] dX7_next_100 (by decide) rfl ?_
              refine g_iload hC dX7_next_102 0 rfl ?_
              refine g_if_eq hC 112 dX7_next_104 (by decide) (fun c_104 => ?_) (fun c_104 => ?_)
              · refine g_iload_n hC dX7_next_112 rfl 3 rfl ?_
                refine g_istore_n hC [(3, .int (fi (rc I g goal) (n - (j + 1)) (j + 1))), (6, .int (nI 0)), (5, .int (oE I j (nI g))), (4, .int (nI j)), (0, .ref (G.2.1 7)), (1, .int (nI g)), (2, .int (nI goal))] dX7_next_113 rfl (by decide) rfl ?_
                refine g_iinc (v := nI j - nI 1) hC [(4, .int (nI j - nI 1)), (3, .int (fi (rc I g goal) (n - (j + 1)) (j + 1))), (6, .int (nI 0)), (5, .int (oE I j (nI g))), (0, .ref (G.2.1 7)), (1, .int (nI g)), (2, .int (nI goal))] dX7_next_114 3 rfl (dn_i _) (by decide) rfl ?_
                refine g_goto hC 10 dX7_next_117 (by decide) ?_
                refine g_lv [0, 1, 4, 5, 6] (lv2 := [(4, .int (nI j - nI 1)), (3, .int (fi (rc I g goal) (n - (j + 1)) (j + 1))), (0, .ref (G.2.1 7)), (1, .int (nI g)), (2, .int (nI goal))]) rfl ?_
                refine g_at rfl (lv2 := [(4, .int (nI j - nI 1)), (3, .int (fi (rc I g goal) (n - j) j)), (0, .ref (G.2.1 7)), (1, .int (nI g)), (2, .int (nI goal))]) (by rw [fi_d (show j < n by omega), hcj] <;> rfl) rfl ?_
                exact ih j _ rfl (by omega) (by omega)
              · exact absurd c_104 (by decide)
            · have hq := oE_nI hw (show j < n by omega) c_63
              have hq1 := hq.1
              refine g_iload_n hC dX7_next_66 rfl 4 rfl ?_
              refine g_iload_n hC dX7_next_67 rfl 5 rfl ?_
              refine g_icmp_eq hC 99 dX7_next_68 (by decide) (fun c_68 => ?_) (fun c_68 => ?_)
              · have d_68 : g = goal := (nI_eq (by omega) (by omega)).mp c_68
                have hcj : rc I g goal j = false := by rw [show g = goal by omega]; exact hs j (by omega)
                refine g_iconst (v := nI 0) hC dX7_next_99 (by decide) ?_
                refine g_istore hC [(6, .int (nI 0)), (5, .int (oE I j (nI g))), (4, .int (nI j)), (3, .int (fi (rc I g goal) (n - (j + 1)) (j + 1))), (0, .ref (G.2.1 7)), (1, .int (nI g)), (2, .int (nI goal))] dX7_next_100 (by decide) rfl ?_
                refine g_iload hC dX7_next_102 0 rfl ?_
                refine g_if_eq hC 112 dX7_next_104 (by decide) (fun c_104 => ?_) (fun c_104 => ?_)
                · refine g_iload_n hC dX7_next_112 rfl 3 rfl ?_
                  refine g_istore_n hC [(3, .int (fi (rc I g goal) (n - (j + 1)) (j + 1))), (6, .int (nI 0)), (5, .int (oE I j (nI g))), (4, .int (nI j)), (0, .ref (G.2.1 7)), (1, .int (nI g)), (2, .int (nI goal))] dX7_next_113 rfl (by decide) rfl ?_
                  refine g_iinc (v := nI j - nI 1) hC [(4, .int (nI j - nI 1)), (3, .int (fi (rc I g goal) (n - (j + 1)) (j + 1))), (6, .int (nI 0)), (5, .int (oE I j (nI g))), (0, .ref (G.2.1 7)), (1, .int (nI g)), (2, .int (nI goal))] dX7_next_114 3 rfl (dn_i _) (by decide) rfl ?_
                  refine g_goto hC 10 dX7_next_117 (by decide) ?_
                  refine g_lv [0, 1, 4, 5, 6] (lv2 := [(4, .int (nI j - nI 1)), (3, .int (fi (rc I g goal) (n - (j + 1)) (j + 1))), (0, .ref (G.2.1 7)), (1, .int (nI g)), (2, .int (nI goal))]) rfl ?_
                  refine g_at rfl (lv2 := [(4, .int (nI j - nI 1)), (3, .int (fi (rc I g goal) (n - j) j)), (0, .ref (G.2.1 7)), (1, .int (nI g)), (2, .int (nI goal))]) (by rw [fi_d (show j < n by omega), hcj] <;> rfl) rfl ?_
                  exact ih j _ rfl (by omega) (by omega)
                · exact absurd c_104 (by decide)
              · have d_68 : ¬ g = goal := fun q => c_68 ((nI_eq (by omega) (by omega)).mpr q)
                refine g_aload_n hC dX7_next_71 rfl 3 rfl ?_
                refine g_iload hC dX7_next_72 0 rfl ?_
                refine g_eqI (x' := nI (oE I j (nI g)).toNatClampNeg) hq.2 ?_
                refine g_iload_n hC dX7_next_74 rfl 5 rfl ?_
                refine g_cV hC [.int (nI (oE I j (nI g)).toNatClampNeg), .int (nI goal)] 7 (m_X7_away hl hG V I J ((oE I j (nI g)).toNatClampNeg) goal (by omega) (by omega)) rfl (st2 := [.int (I 55 (12 * ((oE I j (nI g)).toNatClampNeg) + goal))]) rfl (by decide) rfl rfl rfl tw_881 tw_883 tw_21 tw_38 tw_884 pd_X7_away ⟨rfl, rfl⟩ (by rw [hRm]; exact ⟨Nat.le_of_ble_eq_true rfl, Nat.le_of_ble_eq_true rfl, Nat.le_of_ble_eq_true rfl, Nat.le_of_ble_eq_true rfl⟩) (Nat.le_of_ble_eq_true rfl) dX7_next_75 ?_
                refine g_eqI (x' := I (35 + (oE I j (nI g)).toNatClampNeg) goal) (hmF _ _ hq1 h3) ?_
                refine g_aload_n hC dX7_next_78 rfl 3 rfl ?_
                refine gf_X7_16 hC dX7_next_79 ?_
                refine g_iload hC dX7_next_82 1 rfl ?_
                refine n_iald hC 53 aa_53 j (show j < 24 by omega) dX7_next_84 ?_
                refine g_eqI (x' := I 10 j) (by rw [m53]) ?_
                refine g_iadd hC dX7_next_85 ?_
                refine g_aload_n hC dX7_next_86 rfl 3 rfl ?_
                refine g_iload_n hC dX7_next_87 rfl 4 rfl ?_
                refine g_iload_n hC dX7_next_88 rfl 5 rfl ?_
                refine g_cV hC [.int (nI g), .int (nI goal)] 7 (m_X7_away hl hG V I J g goal (by omega) (by omega)) rfl (st2 := [.int (I 55 (12 * g + goal)), .int ((I (35 + (oE I j (nI g)).toNatClampNeg) goal) + (I 10 j))]) rfl (by decide) rfl rfl rfl tw_881 tw_883 tw_21 tw_38 tw_884 pd_X7_away ⟨rfl, rfl⟩ (by rw [hRm]; exact ⟨Nat.le_of_ble_eq_true rfl, Nat.le_of_ble_eq_true rfl, Nat.le_of_ble_eq_true rfl, Nat.le_of_ble_eq_true rfl⟩) (Nat.le_of_ble_eq_true rfl) dX7_next_89 ?_
                refine g_eqI (x' := I (35 + g) goal) (hmF _ _ h2 h3) ?_
                refine g_icmp_ne hC 99 dX7_next_92 (by decide) (fun c_92 => ?_) (fun c_92 => ?_)
                · have hcj : rc I g goal j = false := rc_f2 c_92
                  refine g_iconst (v := nI 0) hC dX7_next_99 (by decide) ?_
                  refine g_istore hC [(6, .int (nI 0)), (5, .int (oE I j (nI g))), (4, .int (nI j)), (3, .int (fi (rc I g goal) (n - (j + 1)) (j + 1))), (0, .ref (G.2.1 7)), (1, .int (nI g)), (2, .int (nI goal))] dX7_next_100 (by decide) rfl ?_
                  refine g_iload hC dX7_next_102 0 rfl ?_
                  refine g_if_eq hC 112 dX7_next_104 (by decide) (fun c_104 => ?_) (fun c_104 => ?_)
                  · refine g_iload_n hC dX7_next_112 rfl 3 rfl ?_
                    refine g_istore_n hC [(3, .int (fi (rc I g goal) (n - (j + 1)) (j + 1))), (6, .int (nI 0)), (5, .int (oE I j (nI g))), (4, .int (nI j)), (0, .ref (G.2.1 7)), (1, .int (nI g)), (2, .int (nI goal))] dX7_next_113 rfl (by decide) rfl ?_
                    refine g_iinc (v := nI j - nI 1) hC [(4, .int (nI j - nI 1)), (3, .int (fi (rc I g goal) (n - (j + 1)) (j + 1))), (6, .int (nI 0)), (5, .int (oE I j (nI g))), (0, .ref (G.2.1 7)), (1, .int (nI g)), (2, .int (nI goal))] dX7_next_114 3 rfl (dn_i _) (by decide) rfl ?_
                    refine g_goto hC 10 dX7_next_117 (by decide) ?_
                    refine g_lv [0, 1, 4, 5, 6] (lv2 := [(4, .int (nI j - nI 1)), (3, .int (fi (rc I g goal) (n - (j + 1)) (j + 1))), (0, .ref (G.2.1 7)), (1, .int (nI g)), (2, .int (nI goal))]) rfl ?_
                    refine g_at rfl (lv2 := [(4, .int (nI j - nI 1)), (3, .int (fi (rc I g goal) (n - j) j)), (0, .ref (G.2.1 7)), (1, .int (nI g)), (2, .int (nI goal))]) (by rw [fi_d (show j < n by omega), hcj] <;> rfl) rfl ?_
                    exact ih j _ rfl (by omega) (by omega)
                  · exact absurd c_104 (by decide)
                · have hcj : rc I g goal j = true := rc_t c_63 c_92
                  refine g_iconst (v := nI 1) hC dX7_next_95 (by decide) ?_
                  refine g_goto hC 100 dX7_next_96 (by decide) ?_
                  refine g_istore hC [(6, .int (nI 1)), (5, .int (oE I j (nI g))), (4, .int (nI j)), (3, .int (fi (rc I g goal) (n - (j + 1)) (j + 1))), (0, .ref (G.2.1 7)), (1, .int (nI g)), (2, .int (nI goal))] dX7_next_100 (by decide) rfl ?_
                  refine g_iload hC dX7_next_102 0 rfl ?_
                  refine g_if_eq hC 112 dX7_next_104 (by decide) (fun c_104 => ?_) (fun c_104 => ?_)
                  · exact absurd c_104 (by decide)
                  · refine g_iload hC dX7_next_107 2 rfl ?_
                    refine g_goto hC 113 dX7_next_109 (by decide) ?_
                    refine g_istore_n hC [(3, .int (nI j)), (6, .int (nI 1)), (5, .int (oE I j (nI g))), (4, .int (nI j)), (0, .ref (G.2.1 7)), (1, .int (nI g)), (2, .int (nI goal))] dX7_next_113 rfl (by decide) rfl ?_
                    refine g_iinc (v := nI j - nI 1) hC [(4, .int (nI j - nI 1)), (3, .int (nI j)), (6, .int (nI 1)), (5, .int (oE I j (nI g))), (0, .ref (G.2.1 7)), (1, .int (nI g)), (2, .int (nI goal))] dX7_next_114 3 rfl (dn_i _) (by decide) rfl ?_
                    refine g_goto hC 10 dX7_next_117 (by decide) ?_
                    refine g_lv [0, 1, 4, 5, 6] (lv2 := [(4, .int (nI j - nI 1)), (3, .int (nI j)), (0, .ref (G.2.1 7)), (1, .int (nI g)), (2, .int (nI goal))]) rfl ?_
                    refine g_at rfl (lv2 := [(4, .int (nI j - nI 1)), (3, .int (fi (rc I g goal) (n - j) j)), (0, .ref (G.2.1 7)), (1, .int (nI g)), (2, .int (nI goal))]) (by rw [fi_d (show j < n by omega), hcj] <;> rfl) rfl ?_
                    exact ih j _ rfl (by omega) (by omega)
        · refine g_aload_n hC dX7_next_26 rfl 2 rfl ?_
          refine gf_X7_13 hC dX7_next_27 ?_
          refine g_iload hC dX7_next_30 0 rfl ?_
          refine n_iald hC 52 aa_52 j (show j < 24 by omega) dX7_next_32 ?_
          refine g_eqI (x' := I 9 j) (by rw [m52]) ?_
          refine g_goto hC 58 dX7_next_33 (by decide) ?_
          refine g_eqI (x' := oE I j (nI g)) (by unfold oE; first | rw [if_pos c_23] | rw [if_neg c_23, if_pos c_44] | rw [if_neg c_23, if_neg c_44]) ?_
          refine g_istore hC [(5, .int (oE I j (nI g))), (4, .int (nI j)), (3, .int (fi (rc I g goal) (n - (j + 1)) (j + 1))), (0, .ref (G.2.1 7)), (1, .int (nI g)), (2, .int (nI goal))] dX7_next_58 (by decide) rfl ?_
          refine g_iload hC dX7_next_60 0 rfl ?_
          refine g_iconst (v := (-1)) hC dX7_next_62 (by decide) ?_
          refine g_icmp_eq hC 99 dX7_next_63 (by decide) (fun c_63 => ?_) (fun c_63 => ?_)
          · have hcj : rc I g goal j = false := rc_f1 c_63
            refine g_iconst (v := nI 0) hC dX7_next_99 (by decide) ?_
            refine g_istore hC [(6, .int (nI 0)), (5, .int (oE I j (nI g))), (4, .int (nI j)), (3, .int (fi (rc I g goal) (n - (j + 1)) (j + 1))), (0, .ref (G.2.1 7)), (1, .int (nI g)), (2, .int (nI goal))] dX7_next_100 (by decide) rfl ?_
            refine g_iload hC dX7_next_102 0 rfl ?_
            refine g_if_eq hC 112 dX7_next_104 (by decide) (fun c_104 => ?_) (fun c_104 => ?_)
            · refine g_iload_n hC dX7_next_112 rfl 3 rfl ?_
              refine g_istore_n hC [(3, .int (fi (rc I g goal) (n - (j + 1)) (j + 1))), (6, .int (nI 0)), (5, .int (oE I j (nI g))), (4, .int (nI j)), (0, .ref (G.2.1 7)), (1, .int (nI g)), (2, .int (nI goal))] dX7_next_113 rfl (by decide) rfl ?_
              refine g_iinc (v := nI j - nI 1) hC [(4, .int (nI j - nI 1)), (3, .int (fi (rc I g goal) (n - (j + 1)) (j + 1))), (6, .int (nI 0)), (5, .int (oE I j (nI g))), (0, .ref (G.2.1 7)), (1, .int (nI g)), (2, .int (nI goal))] dX7_next_114 3 rfl (dn_i _) (by decide) rfl ?_
              refine g_goto hC 10 dX7_next_117 (by decide) ?_
              refine g_lv [0, 1, 4, 5, 6] (lv2 := [(4, .int (nI j - nI 1)), (3, .int (fi (rc I g goal) (n - (j + 1)) (j + 1))), (0, .ref (G.2.1 7)), (1, .int (nI g)), (2, .int (nI goal))]) rfl ?_
              refine g_at rfl (lv2 := [(4, .int (nI j - nI 1)), (3, .int (fi (rc I g goal) (n - j) j)), (0, .ref (G.2.1 7)), (1, .int (nI g)), (2, .int (nI goal))]) (by rw [fi_d (show j < n by omega), hcj] <;> rfl) rfl ?_
              exact ih j _ rfl (by omega) (by omega)
            · exact absurd c_104 (by decide)
          · have hq := oE_nI hw (show j < n by omega) c_63
            have hq1 := hq.1
            refine g_iload_n hC dX7_next_66 rfl 4 rfl ?_
            refine g_iload_n hC dX7_next_67 rfl 5 rfl ?_
            refine g_icmp_eq hC 99 dX7_next_68 (by decide) (fun c_68 => ?_) (fun c_68 => ?_)
            · have d_68 : g = goal := (nI_eq (by omega) (by omega)).mp c_68
              have hcj : rc I g goal j = false := by rw [show g = goal by omega]; exact hs j (by omega)
              refine g_iconst (v := nI 0) hC dX7_next_99 (by decide) ?_
              refine g_istore hC [(6, .int (nI 0)), (5, .int (oE I j (nI g))), (4, .int (nI j)), (3, .int (fi (rc I g goal) (n - (j + 1)) (j + 1))), (0, .ref (G.2.1 7)), (1, .int (nI g)), (2, .int (nI goal))] dX7_next_100 (by decide) rfl ?_
              refine g_iload hC dX7_next_102 0 rfl ?_
              refine g_if_eq hC 112 dX7_next_104 (by decide) (fun c_104 => ?_) (fun c_104 => ?_)
              · refine g_iload_n hC dX7_next_112 rfl 3 rfl ?_
                refine g_istore_n hC [(3, .int (fi (rc I g goal) (n - (j + 1)) (j + 1))), (6, .int (nI 0)), (5, .int (oE I j (nI g))), (4, .int (nI j)), (0, .ref (G.2.1 7)), (1, .int (nI g)), (2, .int (nI goal))] dX7_next_113 rfl (by decide) rfl ?_
                refine g_iinc (v := nI j - nI 1) hC [(4, .int (nI j - nI 1)), (3, .int (fi (rc I g goal) (n - (j + 1)) (j + 1))), (6, .int (nI 0)), (5, .int (oE I j (nI g))), (0, .ref (G.2.1 7)), (1, .int (nI g)), (2, .int (nI goal))] dX7_next_114 3 rfl (dn_i _) (by decide) rfl ?_
                refine g_goto hC 10 dX7_next_117 (by decide) ?_
                refine g_lv [0, 1, 4, 5, 6] (lv2 := [(4, .int (nI j - nI 1)), (3, .int (fi (rc I g goal) (n - (j + 1)) (j + 1))), (0, .ref (G.2.1 7)), (1, .int (nI g)), (2, .int (nI goal))]) rfl ?_
                refine g_at rfl (lv2 := [(4, .int (nI j - nI 1)), (3, .int (fi (rc I g goal) (n - j) j)), (0, .ref (G.2.1 7)), (1, .int (nI g)), (2, .int (nI goal))]) (by rw [fi_d (show j < n by omega), hcj] <;> rfl) rfl ?_
                exact ih j _ rfl (by omega) (by omega)
              · exact absurd c_104 (by decide)
            · have d_68 : ¬ g = goal := fun q => c_68 ((nI_eq (by omega) (by omega)).mpr q)
              refine g_aload_n hC dX7_next_71 rfl 3 rfl ?_
              refine g_iload hC dX7_next_72 0 rfl ?_
              refine g_eqI (x' := nI (oE I j (nI g)).toNatClampNeg) hq.2 ?_
              refine g_iload_n hC dX7_next_74 rfl 5 rfl ?_
              refine g_cV hC [.int (nI (oE I j (nI g)).toNatClampNeg), .int (nI goal)] 7 (m_X7_away hl hG V I J ((oE I j (nI g)).toNatClampNeg) goal (by omega) (by omega)) rfl (st2 := [.int (I 55 (12 * ((oE I j (nI g)).toNatClampNeg) + goal))]) rfl (by decide) rfl rfl rfl tw_881 tw_883 tw_21 tw_38 tw_884 pd_X7_away ⟨rfl, rfl⟩ (by rw [hRm]; exact ⟨Nat.le_of_ble_eq_true rfl, Nat.le_of_ble_eq_true rfl, Nat.le_of_ble_eq_true rfl, Nat.le_of_ble_eq_true rfl⟩) (Nat.le_of_ble_eq_true rfl) dX7_next_75 ?_
              refine g_eqI (x' := I (35 + (oE I j (nI g)).toNatClampNeg) goal) (hmF _ _ hq1 h3) ?_
              refine g_aload_n hC dX7_next_78 rfl 3 rfl ?_
              refine gf_X7_16 hC dX7_next_79 ?_
              refine g_iload hC dX7_next_82 1 rfl ?_
              refine n_iald hC 53 aa_53 j (show j < 24 by omega) dX7_next_84 ?_
              refine g_eqI (x' := I 10 j) (by rw [m53]) ?_
              refine g_iadd hC dX7_next_85 ?_
              refine g_aload_n hC dX7_next_86 rfl 3 rfl ?_
              refine g_iload_n hC dX7_next_87 rfl 4 rfl ?_
              refine g_iload_n hC dX7_next_88 rfl 5 rfl ?_
              refine g_cV hC [.int (nI g), .int (nI goal)] 7 (m_X7_away hl hG V I J g goal (by omega) (by omega)) rfl (st2 := [.int (I 55 (12 * g + goal)), .int ((I (35 + (oE I j (nI g)).toNatClampNeg) goal) + (I 10 j))]) rfl (by decide) rfl rfl rfl tw_881 tw_883 tw_21 tw_38 tw_884 pd_X7_away ⟨rfl, rfl⟩ (by rw [hRm]; exact ⟨Nat.le_of_ble_eq_true rfl, Nat.le_of_ble_eq_true rfl, Nat.le_of_ble_eq_true rfl, Nat.le_of_ble_eq_true rfl⟩) (Nat.le_of_ble_eq_true rfl) dX7_next_89 ?_
              refine g_eqI (x' := I (35 + g) goal) (hmF _ _ h2 h3) ?_
              refine g_icmp_ne hC 99 dX7_next_92 (by decide) (fun c_92 => ?_) (fun c_92 => ?_)
              · have hcj : rc I g goal j = false := rc_f2 c_92
                refine g_iconst (v := nI 0) hC dX7_next_99 (by decide) ?_
                refine g_istore hC [(6, .int (nI 0)), (5, .int (oE I j (nI g))), (4, .int (nI j)), (3, .int (fi (rc I g goal) (n - (j + 1)) (j + 1))), (0, .ref (G.2.1 7)), (1, .int (nI g)), (2, .int (nI goal))] dX7_next_100 (by decide) rfl ?_
                refine g_iload hC dX7_next_102 0 rfl ?_
                refine g_if_eq hC 112 dX7_next_104 (by decide) (fun c_104 => ?_) (fun c_104 => ?_)
                · refine g_iload_n hC dX7_next_112 rfl 3 rfl ?_
                  refine g_istore_n hC [(3, .int (fi (rc I g goal) (n - (j + 1)) (j + 1))), (6, .int (nI 0)), (5, .int (oE I j (nI g))), (4, .int (nI j)), (0, .ref (G.2.1 7)), (1, .int (nI g)), (2, .int (nI goal))] dX7_next_113 rfl (by decide) rfl ?_
                  refine g_iinc (v := nI j - nI 1) hC [(4, .int (nI j - nI 1)), (3, .int (fi (rc I g goal) (n - (j + 1)) (j + 1))), (6, .int (nI 0)), (5, .int (oE I j (nI g))), (0, .ref (G.2.1 7)), (1, .int (nI g)), (2, .int (nI goal))] dX7_next_114 3 rfl (dn_i _) (by decide) rfl ?_
                  refine g_goto hC 10 dX7_next_117 (by decide) ?_
                  refine g_lv [0, 1, 4, 5, 6] (lv2 := [(4, .int (nI j - nI 1)), (3, .int (fi (rc I g goal) (n - (j + 1)) (j + 1))), (0, .ref (G.2.1 7)), (1, .int (nI g)), (2, .int (nI goal))]) rfl ?_
                  refine g_at rfl (lv2 := [(4, .int (nI j - nI 1)), (3, .int (fi (rc I g goal) (n - j) j)), (0, .ref (G.2.1 7)), (1, .int (nI g)), (2, .int (nI goal))]) (by rw [fi_d (show j < n by omega), hcj] <;> rfl) rfl ?_
                  exact ih j _ rfl (by omega) (by omega)
                · exact absurd c_104 (by decide)
              · have hcj : rc I g goal j = true := rc_t c_63 c_92
                refine g_iconst (v := nI 1) hC dX7_next_95 (by decide) ?_
                refine g_goto hC 100 dX7_next_96 (by decide) ?_
                refine g_istore hC [(6, .int (nI 1)), (5, .int (oE I j (nI g))), (4, .int (nI j)), (3, .int (fi (rc I g goal) (n - (j + 1)) (j + 1))), (0, .ref (G.2.1 7)), (1, .int (nI g)), (2, .int (nI goal))] dX7_next_100 (by decide) rfl ?_
                refine g_iload hC dX7_next_102 0 rfl ?_
                refine g_if_eq hC 112 dX7_next_104 (by decide) (fun c_104 => ?_) (fun c_104 => ?_)
                · exact absurd c_104 (by decide)
                · refine g_iload hC dX7_next_107 2 rfl ?_
                  refine g_goto hC 113 dX7_next_109 (by decide) ?_
                  refine g_istore_n hC [(3, .int (nI j)), (6, .int (nI 1)), (5, .int (oE I j (nI g))), (4, .int (nI j)), (0, .ref (G.2.1 7)), (1, .int (nI g)), (2, .int (nI goal))] dX7_next_113 rfl (by decide) rfl ?_
                  refine g_iinc (v := nI j - nI 1) hC [(4, .int (nI j - nI 1)), (3, .int (nI j)), (6, .int (nI 1)), (5, .int (oE I j (nI g))), (0, .ref (G.2.1 7)), (1, .int (nI g)), (2, .int (nI goal))] dX7_next_114 3 rfl (dn_i _) (by decide) rfl ?_
                  refine g_goto hC 10 dX7_next_117 (by decide) ?_
                  refine g_lv [0, 1, 4, 5, 6] (lv2 := [(4, .int (nI j - nI 1)), (3, .int (nI j)), (0, .ref (G.2.1 7)), (1, .int (nI g)), (2, .int (nI goal))]) rfl ?_
                  refine g_at rfl (lv2 := [(4, .int (nI j - nI 1)), (3, .int (fi (rc I g goal) (n - j) j)), (0, .ref (G.2.1 7)), (1, .int (nI g)), (2, .int (nI goal))]) (by rw [fi_d (show j < n by omega), hcj] <;> rfl) rfl ?_
                  exact ih j _ rfl (by omega) (by omega)
  refine g_iconst (v := (-1)) hC dX7_next_0 (by decide) ?_
  refine g_istore_n hC [(3, .int ((-1))), (0, .ref (G.2.1 7)), (1, .int (nI g)), (2, .int (nI goal))] dX7_next_1 rfl (by decide) rfl ?_
  refine g_aload_n hC dX7_next_2 rfl 1 rfl ?_
  refine gf_X7_117 hC dX7_next_3 ?_
  refine g_eqI (x' := nI n) (by rw [v10]) ?_
  refine g_iconst (v := nI 1) hC dX7_next_6 (by decide) ?_
  refine g_isub hC dX7_next_7 ?_
  refine g_istore hC [(4, .int ((nI n) - (nI 1))), (3, .int ((-1))), (0, .ref (G.2.1 7)), (1, .int (nI g)), (2, .int (nI goal))] dX7_next_8 (by decide) rfl ?_
  refine g_at rfl (lv2 := [(4, .int (nI n - nI 1)), (3, .int (fi (rc I g goal) (n - n) n)), (0, .ref (G.2.1 7)), (1, .int (nI g)), (2, .int (nI goal))]) (by rw [Nat.sub_self]; rfl) rfl ?_
  exact lp_10 (n + 1) n _ rfl (Nat.le_refl _) (by omega)

set_option maxRecDepth 100000 in
theorem m_X7_isExempt {l : Launch} {G : wG} (hl : l.stackTraces = false) (hG : wD G) (V : wV) (I : wI) (J : wJ) (n : Nat) (p m : Int32) (v12 : V 12 = nI n) (h1 : n ≤ 20) (hmI : mI I) : Ctr l yX7_isExempt cX7_isExempt 5 (some .boolean) { frames := 1, cells := 0, slots := 0, locals := 22 } G [.ref (G.2.1 7), .int p, .int m] V I J (pU (some (.int (if an (ec I p m) n = true then nI 1 else nI 0))) V I J) (noX) := by
  refine ctr_of hl hG (by decide) (Nat.le_of_ble_eq_true rfl) [(0, .ref (G.2.1 7)), (1, .int p), (2, .int m)] rfl ?_
  intro K hC hKl hRm hr hT
  subst hKl
  have hC : Cx K G RX7 cX7_isExempt 5 := hC
  obtain ⟨m51, m52, m53, m54, m56, m57, m58, m59, m64, m65, m66, m67, m68, m69, m70⟩ := id hmI
  have lp_5 : ∀ (k9 : Nat) (k : Nat) (hk : k ≤ n) (hk9 : n < k + k9), WW K G 0 0 (QM K G { frames := 1, cells := 0, slots := 0, locals := 22 } (pU (some (.int (if an (ec I p m) n = true then nI 1 else nI 0))) V I J) (noX)) V I J 5 [(4, .int (nI k)), (3, .int ((if an (ec I p m) k = true then nI 1 else nI 0))), (0, .ref (G.2.1 7)), (1, .int p), (2, .int m)] [] := by
    intro k9
    induction k9 with
    | zero =>
      intro k hk hk9
      omega
    | succ k9 ih =>
      intro k hk hk9
      refine g_iload hC dX7_isExempt_5 0 rfl ?_
      refine g_aload_n hC dX7_isExempt_7 rfl 2 rfl ?_
      refine gf_X7_138 hC dX7_isExempt_8 ?_
      refine g_eqI (x' := nI n) (by rw [v12]) ?_
      refine g_icmp_ge hC 62 dX7_isExempt_11 (by decide) (fun c_11 => ?_) (fun c_11 => ?_)
      · have d_11 : n ≤ k := (nI_leI (by omega) (by omega)).mp c_11
        refine g_iload_n hC dX7_isExempt_62 rfl 1 rfl ?_
        exact g_zret hC (by split; exact Or.inr rfl; exact Or.inl rfl) hr dX7_isExempt_63 (Nat.le_of_ble_eq_true rfl) (Nat.le_of_ble_eq_true rfl) ⟨by rw [show k = n by omega], rfl, rfl, rfl⟩
      · have d_11 : ¬ n ≤ k := fun q => c_11 ((nI_leI (by omega) (by omega)).mpr q)
        refine g_iload_n hC dX7_isExempt_14 rfl 1 rfl ?_
        refine g_if_ne hC 50 dX7_isExempt_15 (by decide) (fun c_15 => ?_) (fun c_15 => ?_)
        · have hb := b10_t c_15
          refine g_iconst (v := nI 1) hC dX7_isExempt_50 (by decide) ?_
          refine g_goto hC 55 dX7_isExempt_51 (by decide) ?_
          refine g_istore_n hC [(3, .int (nI 1)), (4, .int (nI k)), (0, .ref (G.2.1 7)), (1, .int p), (2, .int m)] dX7_isExempt_55 rfl (by decide) rfl ?_
          refine g_iinc (v := nI (k + 1)) hC [(4, .int (nI (k + 1))), (3, .int (nI 1)), (0, .ref (G.2.1 7)), (1, .int p), (2, .int m)] dX7_isExempt_56 1 rfl (nI_i1 _) (by decide) rfl ?_
          refine g_goto hC 5 dX7_isExempt_59 (by decide) ?_
          refine g_at rfl (lv2 := [(4, .int (nI (k + 1))), (3, .int (if an (ec I p m) (k + 1) = true then nI 1 else nI 0)), (0, .ref (G.2.1 7)), (1, .int p), (2, .int m)]) (by first | rw [show an (ec I p m) (k + 1) = true by (show (an _ k || ec I p m k) = true); rw [hb]; rfl] <;> rfl | rw [show an (ec I p m) (k + 1) = true by (show (an _ k || ec I p m k) = true); rw [hc]; exact Bool.or_true _] <;> rfl | rw [show an (ec I p m) (k + 1) = false by (show (an _ k || ec I p m k) = false); rw [hb, hc]; rfl] <;> rfl) rfl ?_
          exact ih (k + 1) (by omega) (by omega)
        · have hb := b10_f c_15
          refine g_aload_n hC dX7_isExempt_18 rfl 2 rfl ?_
          refine gf_X7_54 hC dX7_isExempt_19 ?_
          refine g_iload hC dX7_isExempt_22 0 rfl ?_
          refine n_iald hC 64 aa_64 k (show k < 20 by omega) dX7_isExempt_24 ?_
          refine g_eqI (x' := I 16 k) (by rw [m64]) ?_
          refine g_iload_n hC dX7_isExempt_25 rfl 3 rfl ?_
          refine g_icmp_ne hC 54 dX7_isExempt_26 (by decide) (fun c_26 => ?_) (fun c_26 => ?_)
          · have hc : ec I p m k = false := ec_f1 c_26
            refine g_iconst (v := nI 0) hC dX7_isExempt_54 (by decide) ?_
            refine g_istore_n hC [(3, .int (nI 0)), (4, .int (nI k)), (0, .ref (G.2.1 7)), (1, .int p), (2, .int m)] dX7_isExempt_55 rfl (by decide) rfl ?_
            refine g_iinc (v := nI (k + 1)) hC [(4, .int (nI (k + 1))), (3, .int (nI 0)), (0, .ref (G.2.1 7)), (1, .int p), (2, .int m)] dX7_isExempt_56 1 rfl (nI_i1 _) (by decide) rfl ?_
            refine g_goto hC 5 dX7_isExempt_59 (by decide) ?_
            refine g_at rfl (lv2 := [(4, .int (nI (k + 1))), (3, .int (if an (ec I p m) (k + 1) = true then nI 1 else nI 0)), (0, .ref (G.2.1 7)), (1, .int p), (2, .int m)]) (by first | rw [show an (ec I p m) (k + 1) = true by (show (an _ k || ec I p m k) = true); rw [hb]; rfl] <;> rfl | rw [show an (ec I p m) (k + 1) = true by (show (an _ k || ec I p m k) = true); rw [hc]; exact Bool.or_true _] <;> rfl | rw [show an (ec I p m) (k + 1) = false by (show (an _ k || ec I p m k) = false); rw [hb, hc]; rfl] <;> rfl) rfl ?_
            exact ih (k + 1) (by omega) (by omega)
          · refine g_iload_n hC dX7_isExempt_29 rfl 4 rfl ?_
            refine g_aload_n hC dX7_isExempt_30 rfl 2 rfl ?_
            refine gf_X7_57 hC dX7_isExempt_31 ?_
            refine g_iload hC dX7_isExempt_34 0 rfl ?_
            refine n_iald hC 65 aa_65 k (show k < 20 by omega) dX7_isExempt_36 ?_
            refine g_eqI (x' := I 17 k) (by rw [m65]) ?_
            refine g_aload_n hC dX7_isExempt_37 rfl 2 rfl ?_
            refine gf_X7_60 hC dX7_isExempt_38 ?_
            refine g_iload hC dX7_isExempt_41 0 rfl ?_
            refine n_iald hC 66 aa_66 k (show k < 20 by omega) dX7_isExempt_43 ?_
            refine g_eqI (x' := I 18 k) (by rw [m66]) ?_
            refine g_cS hC [.int m, .int (I 17 k), .int (I 18 k)] (m_X7_in hl hG V I J m (I 17 k) (I 18 k)) rfl (st2 := [.int ((if rgB m (I 17 k) (I 18 k) = true then nI 1 else nI 0))]) rfl rfl tw_819 tw_820 tw_38 tw_821 pd_X7_in ⟨rfl, rfl⟩ (by rw [hRm]; exact ⟨Nat.le_of_ble_eq_true rfl, Nat.le_of_ble_eq_true rfl, Nat.le_of_ble_eq_true rfl, Nat.le_of_ble_eq_true rfl⟩) (Nat.le_of_ble_eq_true rfl) dX7_isExempt_44 ?_
            refine g_if_eq hC 54 dX7_isExempt_47 (by decide) (fun c_47 => ?_) (fun c_47 => ?_)
            · have hr := b10_f c_47
              have hc : ec I p m k = false := by unfold ec; unfold rgB at hr; rw [show (decide (I 17 k ≤ m)) = decide (¬ m < I 17 k) by simp [Int32.not_lt], hr, Bool.and_false]
              refine g_iconst (v := nI 0) hC dX7_isExempt_54 (by decide) ?_
              refine g_istore_n hC [(3, .int (nI 0)), (4, .int (nI k)), (0, .ref (G.2.1 7)), (1, .int p), (2, .int m)] dX7_isExempt_55 rfl (by decide) rfl ?_
              refine g_iinc (v := nI (k + 1)) hC [(4, .int (nI (k + 1))), (3, .int (nI 0)), (0, .ref (G.2.1 7)), (1, .int p), (2, .int m)] dX7_isExempt_56 1 rfl (nI_i1 _) (by decide) rfl ?_
              refine g_goto hC 5 dX7_isExempt_59 (by decide) ?_
              refine g_at rfl (lv2 := [(4, .int (nI (k + 1))), (3, .int (if an (ec I p m) (k + 1) = true then nI 1 else nI 0)), (0, .ref (G.2.1 7)), (1, .int p), (2, .int m)]) (by first | rw [show an (ec I p m) (k + 1) = true by (show (an _ k || ec I p m k) = true); rw [hb]; rfl] <;> rfl | rw [show an (ec I p m) (k + 1) = true by (show (an _ k || ec I p m k) = true); rw [hc]; exact Bool.or_true _] <;> rfl | rw [show an (ec I p m) (k + 1) = false by (show (an _ k || ec I p m k) = false); rw [hb, hc]; rfl] <;> rfl) rfl ?_
              exact ih (k + 1) (by omega) (by omega)
            · have hr := b10_t c_47
              have hc : ec I p m k = true := by unfold ec; unfold rgB at hr; rw [show (decide (I 17 k ≤ m)) = decide (¬ m < I 17 k) by simp [Int32.not_lt], hr, decide_eq_true c_26]; rfl
              refine g_iconst (v := nI 1) hC dX7_isExempt_50 (by decide) ?_
              refine g_goto hC 55 dX7_isExempt_51 (by decide) ?_
              refine g_istore_n hC [(3, .int (nI 1)), (4, .int (nI k)), (0, .ref (G.2.1 7)), (1, .int p), (2, .int m)] dX7_isExempt_55 rfl (by decide) rfl ?_
              refine g_iinc (v := nI (k + 1)) hC [(4, .int (nI (k + 1))), (3, .int (nI 1)), (0, .ref (G.2.1 7)), (1, .int p), (2, .int m)] dX7_isExempt_56 1 rfl (nI_i1 _) (by decide) rfl ?_
              refine g_goto hC 5 dX7_isExempt_59 (by decide) ?_
              refine g_at rfl (lv2 := [(4, .int (nI (k + 1))), (3, .int (if an (ec I p m) (k + 1) = true then nI 1 else nI 0)), (0, .ref (G.2.1 7)), (1, .int p), (2, .int m)]) (by first | rw [show an (ec I p m) (k + 1) = true by (show (an _ k || ec I p m k) = true); rw [hb]; rfl] <;> rfl | rw [show an (ec I p m) (k + 1) = true by (show (an _ k || ec I p m k) = true); rw [hc]; exact Bool.or_true _] <;> rfl | rw [show an (ec I p m) (k + 1) = false by (show (an _ k || ec I p m k) = false); rw [hb, hc]; rfl] <;> rfl) rfl ?_
              exact ih (k + 1) (by omega) (by omega)
  refine g_iconst (v := nI 0) hC dX7_isExempt_0 (by decide) ?_
  refine g_istore_n hC [(3, .int (nI 0)), (0, .ref (G.2.1 7)), (1, .int p), (2, .int m)] dX7_isExempt_1 rfl (by decide) rfl ?_
  refine g_iconst (v := nI 0) hC dX7_isExempt_2 (by decide) ?_
  refine g_istore hC [(4, .int (nI 0)), (3, .int (nI 0)), (0, .ref (G.2.1 7)), (1, .int p), (2, .int m)] dX7_isExempt_3 (by decide) rfl ?_
  exact lp_5 (n + 1) 0 (by omega) (by omega)

set_option maxRecDepth 100000 in
theorem m_X7_isOver {l : Launch} {G : wG} (hl : l.stackTraces = false) (hG : wD G) (V : wV) (I : wI) (J : wJ) (j : Nat) (h1 : j < 100) : Ctr l yX7_isOver cX7_isOver 2 (some .boolean) { frames := 0, cells := 0, slots := 0, locals := 0 } G [.ref (G.2.1 7), .int (nI j)] V I J (pU (some (.int (if V 8 - I 75 j < nI 60 then nI 0 else nI 1))) V I J) (noX) := by
  refine ctr_of hl hG (by decide) (Nat.le_of_ble_eq_true rfl) [(0, .ref (G.2.1 7)), (1, .int (nI j))] rfl ?_
  intro K hC hKl hRm hr hT
  subst hKl
  have hC : Cx K G RX7 cX7_isOver 2 := hC
  refine g_aload_n hC dX7_isOver_0 rfl 0 rfl ?_
  refine gf_X7_141 hC dX7_isOver_1 ?_
  refine g_aload_n hC dX7_isOver_4 rfl 0 rfl ?_
  refine gf_X7_88 hC dX7_isOver_5 ?_
  refine g_iload_n hC dX7_isOver_8 rfl 1 rfl ?_
  refine n_iald hC 75 aa_75 j (show j < 100 by omega) dX7_isOver_9 ?_
  refine g_isub hC dX7_isOver_10 ?_
  refine g_bipush (v := nI 60) hC dX7_isOver_11 (by decide) ?_
  refine g_icmp_lt hC 20 dX7_isOver_13 (by decide) (fun c_13 => ?_) (fun c_13 => ?_)
  · refine g_iconst (v := nI 0) hC dX7_isOver_20 (by decide) ?_
    exact g_zret hC (by first | exact Or.inl rfl | exact Or.inr rfl) hr dX7_isOver_21 (Nat.le_of_ble_eq_true rfl) (Nat.le_of_ble_eq_true rfl) ⟨by first | (rw [if_pos c_13] <;> rfl) | (rw [if_neg c_13] <;> rfl), rfl, rfl, rfl⟩
  · refine g_iconst (v := nI 1) hC dX7_isOver_16 (by decide) ?_
    refine g_goto hC 21 dX7_isOver_17 (by decide) ?_
    exact g_zret hC (by first | exact Or.inl rfl | exact Or.inr rfl) hr dX7_isOver_21 (Nat.le_of_ble_eq_true rfl) (Nat.le_of_ble_eq_true rfl) ⟨by first | (rw [if_pos c_13] <;> rfl) | (rw [if_neg c_13] <;> rfl), rfl, rfl, rfl⟩
