theorem m_X7_goesC {l : Launch} {G : wG} (hl : l.stackTraces = false) (hG : wD G) (V : wV) (I : wI) (J : wJ) (nr n ns plate M : Nat) (G0 : wI) (hc : cGd nr n ns M V I) (hx : eqy I G0) (hp : plate < 10) : Ctr l yX7_goes cX7_goes 7 none { frames := 3, cells := 0, slots := 0, locals := 78 } G [.ref (G.2.1 7), .int (nI plate)] V I J (fun r9 V9 I9 J9 => r9 = none ∧ V9 = upd V 14 (nI (fj nr ns plate G0 n).1) ∧ gK I I9 ∧ fq J J9 ∧ gF n plate I M (fj nr ns plate G0 n) I9 J9) noX := by
  obtain ⟨h1, h2, h3, h4, h5, h6, h7, h8, h9, h10, h11⟩ := hc
  exact m_X7_goes hl hG V I J nr n ns plate M G0 h1 h2 h3 h4 h5 hx h6 h7 h8 h9 h10 h11 hp

set_option maxRecDepth 100000 in
theorem m_X7_dueOf {l : Launch} {G : wG} (hl : l.stackTraces = false) (hG : wD G) (V : wV) (I : wI) (J : wJ) (nr n ns M : Nat) (hc : cGd nr n ns M V I) (plate : Nat) (G0 : wI) (hx : eqy I G0) (hp : plate < 10) : Ctr l yX7_dueOf cX7_dueOf 5 (some .long) { frames := 4, cells := 0, slots := 0, locals := 104 } G [.ref (G.2.1 7), .int (nI plate)] V I J (fun r9 V9 I9 J9 => r9 = some (.long (sF (fj nr ns plate G0 n).2.2 (V 8) (nI M) (fj nr ns plate G0 n).1)) ∧ V9 = (upd V 14 (nI (fj nr ns plate G0 n).1)) ∧ gK I I9 ∧ fq J J9) (noX) := by
  refine ctr_of hl hG (by decide) (Nat.le_of_ble_eq_true rfl) [(0, .ref (G.2.1 7)), (1, .int (nI plate))] rfl ?_
  intro K hC hKl hRm hr hT
  subst hKl
  have hC : Cx K G RX7 cX7_dueOf 5 := hC
  have hcn := fj_n (plate := plate) hc hx
  have lp_10 : ∀ (k9 : Nat) (I9 : wI) (J9 : wJ) (k : Nat) (hK9 : gK I I9) (hJ9 : fq J J9) (hF9 : gF n plate I M (fj nr ns plate G0 n) I9 J9) (hk : k ≤ (fj nr ns plate G0 n).1) (hk9 : (fj nr ns plate G0 n).1 < k + k9), WW K G 0 0 (QM K G { frames := 4, cells := 0, slots := 0, locals := 104 } (fun r9 V9 I9 J9 => r9 = some (.long (sF (fj nr ns plate G0 n).2.2 (V 8) (nI M) (fj nr ns plate G0 n).1)) ∧ V9 = (upd V 14 (nI (fj nr ns plate G0 n).1)) ∧ gK I I9 ∧ fq J J9) (noX)) (upd V 14 (nI (fj nr ns plate G0 n).1)) I9 J9 10 [(4, .int (nI k)), (2, .long (sF (fj nr ns plate G0 n).2.2 (V 8) (nI M) k)), (0, .ref (G.2.1 7)), (1, .int (nI plate))] [] := by
    intro k9
    induction k9 with
    | zero =>
      intro I9 J9 k hK9 hJ9 hF9 hk hk9
      omega
    | succ k9 ih =>
      intro I9 J9 k hK9 hJ9 hF9 hk hk9
      refine g_iload hC dX7_dueOf_10 0 rfl ?_
      refine g_aload_n hC dX7_dueOf_12 rfl 2 rfl ?_
      refine gf_X7_159 hC dX7_dueOf_13 ?_
      refine g_eqI (x' := nI (fj nr ns plate G0 n).1) (by rw [pk_us]) ?_
      refine g_icmp_ge hC 48 dX7_dueOf_16 (by decide) (fun c_16 => ?_) (fun c_16 => ?_)
      · have d_16 : (fj nr ns plate G0 n).1 ≤ k := (nI_leI (by omega) (by omega)).mp c_16
        refine g_lload_n hC dX7_dueOf_48 rfl 1 rfl ?_
        exact g_lret hC hr dX7_dueOf_49 (Nat.le_of_ble_eq_true rfl) (Nat.le_of_ble_eq_true rfl) ⟨by rw [show k = (fj nr ns plate G0 n).1 by omega], rfl, hK9, hJ9⟩
      · have d_16 : ¬ (fj nr ns plate G0 n).1 ≤ k := fun q => c_16 ((nI_leI (by omega) (by omega)).mpr q)
        obtain ⟨y1, y2, y3, y4, y5⟩ := hF9.1 k (by omega)
        refine g_lload_n hC dX7_dueOf_19 rfl 1 rfl ?_
        refine g_aload_n hC dX7_dueOf_20 rfl 2 rfl ?_
        refine g_iload hC dX7_dueOf_21 0 rfl ?_
        refine g_cV hC [.int (nI k)] 7 (m_X7_isOver hl hG (upd V 14 (nI (fj nr ns plate G0 n).1)) I9 J9 k (by omega)) rfl (st2 := [.int ((if (upd V 14 (nI (fj nr ns plate G0 n).1)) 8 - I9 75 k < nI 60 then nI 0 else nI 1)), .long (sF (fj nr ns plate G0 n).2.2 (V 8) (nI M) k)]) rfl (by decide) rfl rfl rfl tw_910 tw_912 tw_28 tw_38 tw_913 pd_X7_isOver ⟨rfl, rfl⟩ (by rw [hRm]; exact ⟨Nat.le_of_ble_eq_true rfl, Nat.le_of_ble_eq_true rfl, Nat.le_of_ble_eq_true rfl, Nat.le_of_ble_eq_true rfl⟩) (Nat.le_of_ble_eq_true rfl) dX7_dueOf_23 ?_
        refine g_eqI (x' := (if V 8 - (fj nr ns plate G0 n).2.2 25 k < nI 60 then nI 0 else nI 1)) (by rw [pk_un (by decide), y2]) ?_
        refine g_if_eq hC 39 dX7_dueOf_26 (by decide) (fun c_26 => ?_) (fun c_26 => ?_)
        · have ho := ite01_f c_26
          have hsum : sF (fj nr ns plate G0 n).2.2 (V 8) (nI M) k + 0 = sF (fj nr ns plate G0 n).2.2 (V 8) (nI M) (k + 1) := (Int64.add_zero _).trans (if_pos ho).symm
          refine g_lconst (v := 0) hC dX7_dueOf_39 (by decide) ?_
          refine g_ladd hC dX7_dueOf_40 ?_
          refine g_eqL (x' := sF (fj nr ns plate G0 n).2.2 (V 8) (nI M) (k + 1)) hsum ?_
          refine g_lstore_n hC [(2, .long (sF (fj nr ns plate G0 n).2.2 (V 8) (nI M) (k + 1))), (4, .int (nI k)), (0, .ref (G.2.1 7)), (1, .int (nI plate))] dX7_dueOf_41 rfl (by decide) rfl ?_
          refine g_iinc (v := nI (k + 1)) hC [(4, .int (nI (k + 1))), (2, .long (sF (fj nr ns plate G0 n).2.2 (V 8) (nI M) (k + 1))), (0, .ref (G.2.1 7)), (1, .int (nI plate))] dX7_dueOf_42 1 rfl (nI_i1 _) (by decide) rfl ?_
          refine g_goto hC 10 dX7_dueOf_45 (by decide) ?_
          exact ih I9 J9 (k + 1) hK9 hJ9 hF9 (by omega) (by omega)
        · have ho := ite01_t c_26
          have hsum : sF (fj nr ns plate G0 n).2.2 (V 8) (nI M) k + (fr (fj nr ns plate G0 n).2.2 k (nI M)).toInt64 = sF (fj nr ns plate G0 n).2.2 (V 8) (nI M) (k + 1) := (if_neg ho).symm
          refine g_aload_n hC dX7_dueOf_29 rfl 2 rfl ?_
          refine gf_X7_97 hC dX7_dueOf_30 ?_
          refine g_iload hC dX7_dueOf_33 0 rfl ?_
          refine n_lald hC 78 aa_78 k (show k < 100 by omega) dX7_dueOf_35 ?_
          refine g_eqL (x' := (fr (fj nr ns plate G0 n).2.2 k (nI M)).toInt64) y4 ?_
          refine g_goto hC 40 dX7_dueOf_36 (by decide) ?_
          refine g_ladd hC dX7_dueOf_40 ?_
          refine g_eqL (x' := sF (fj nr ns plate G0 n).2.2 (V 8) (nI M) (k + 1)) hsum ?_
          refine g_lstore_n hC [(2, .long (sF (fj nr ns plate G0 n).2.2 (V 8) (nI M) (k + 1))), (4, .int (nI k)), (0, .ref (G.2.1 7)), (1, .int (nI plate))] dX7_dueOf_41 rfl (by decide) rfl ?_
          refine g_iinc (v := nI (k + 1)) hC [(4, .int (nI (k + 1))), (2, .long (sF (fj nr ns plate G0 n).2.2 (V 8) (nI M) (k + 1))), (0, .ref (G.2.1 7)), (1, .int (nI plate))] dX7_dueOf_42 1 rfl (nI_i1 _) (by decide) rfl ?_
          refine g_goto hC 10 dX7_dueOf_45 (by decide) ?_
          exact ih I9 J9 (k + 1) hK9 hJ9 hF9 (by omega) (by omega)
  refine g_aload_n hC dX7_dueOf_0 rfl 0 rfl ?_
  refine g_iload_n hC dX7_dueOf_1 rfl 1 rfl ?_
  refine g_cVr hC [.int (nI plate)] 7 (m_X7_goesC hl hG V I J nr n ns plate M G0 hc hx hp) rfl (by decide) rfl rfl rfl tw_873 tw_875 tw_19 tw_38 tw_876 pd_X7_goes ⟨rfl, rfl⟩ (by rw [hRm]; exact ⟨Nat.le_of_ble_eq_true rfl, Nat.le_of_ble_eq_true rfl, Nat.le_of_ble_eq_true rfl, Nat.le_of_ble_eq_true rfl⟩) (Nat.le_of_ble_eq_true rfl) dX7_dueOf_2 (fun r9 V9 I9 J9 hp9 => ?_)
  obtain ⟨rfl, hVq, hK9, hJ9, hF9⟩ := hp9
  have hVq := hVq.symm
  subst hVq
  refine g_at rfl rfl (st2 := []) rfl ?_
  refine g_lconst (v := 0) hC dX7_dueOf_5 (by decide) ?_
  refine g_lstore_n hC [(2, .long 0), (0, .ref (G.2.1 7)), (1, .int (nI plate))] dX7_dueOf_6 rfl (by decide) rfl ?_
  refine g_iconst (v := nI 0) hC dX7_dueOf_7 (by decide) ?_
  refine g_istore hC [(4, .int (nI 0)), (2, .long 0), (0, .ref (G.2.1 7)), (1, .int (nI plate))] dX7_dueOf_8 (by decide) rfl ?_
  exact lp_10 ((fj nr ns plate G0 n).1 + 1) I9 J9 0 hK9 hJ9 hF9 (by omega) (by omega)

set_option maxRecDepth 100000 in
theorem m_X7_dueTo {l : Launch} {G : wG} (hl : l.stackTraces = false) (hG : wD G) (V : wV) (I : wI) (J : wJ) (nr n ns M : Nat) (hc : cGd nr n ns M V I) (o : Nat) (Gp : Nat → wI) (hx : ∀ p, p < 10 → eqy I (Gp p)) (ho : o < 4) : Ctr l yX7_dueTo cX7_dueTo 6 (some .long) { frames := 4, cells := 0, slots := 0, locals := 104 } G [.ref (G.2.1 7), .int (nI o)] V I J (fun r9 V9 I9 J9 => r9 = some (.long (dS nr ns n o Gp (V 8) (nI M) 10)) ∧ fv V V9 ∧ V9 7 = V 7 ∧ gK I I9 ∧ fq J J9) (noX) := by
  refine ctr_of hl hG (by decide) (Nat.le_of_ble_eq_true rfl) [(0, .ref (G.2.1 7)), (1, .int (nI o))] rfl ?_
  intro K hC hKl hRm hr hT
  subst hKl
  have hC : Cx K G RX7 cX7_dueTo 6 := hC
  have lp_5 : ∀ (k9 : Nat) (Va : wV) (Ia : wI) (Ja : wJ) (p : Nat) (hVa : fv V Va) (h7 : Va 7 = V 7) (hKa : gK I Ia) (hJa : fq J Ja) (hp : p ≤ 10) (hk9 : 10 < p + k9), WW K G 0 0 (QM K G { frames := 4, cells := 0, slots := 0, locals := 104 } (fun r9 V9 I9 J9 => r9 = some (.long (dS nr ns n o Gp (V 8) (nI M) 10)) ∧ fv V V9 ∧ V9 7 = V 7 ∧ gK I I9 ∧ fq J J9) (noX)) Va Ia Ja 5 [(4, .int (nI p)), (2, .long (dS nr ns n o Gp (V 8) (nI M) p)), (0, .ref (G.2.1 7)), (1, .int (nI o))] [] := by
    intro k9
    induction k9 with
    | zero =>
      intro Va Ia Ja p hVa h7 hKa hJa hp hk9
      omega
    | succ k9 ih =>
      intro Va Ia Ja p hVa h7 hKa hJa hp hk9
      have lp_21 : ∀ (k8 : Nat) (I8 : wI) (J8 : wJ) (k : Nat) (hp1 : p < 10) (hK8 : gK I I8) (hJ8 : fq J J8) (hF8 : gF n p Ia M (fj nr ns p (Gp p) n) I8 J8) (hcn : (fj nr ns p (Gp p) n).1 ≤ 100) (hk : k ≤ (fj nr ns p (Gp p) n).1) (hk8 : (fj nr ns p (Gp p) n).1 < k + k8), WW K G 0 0 (QM K G { frames := 4, cells := 0, slots := 0, locals := 104 } (fun r9 V9 I9 J9 => r9 = some (.long (dS nr ns n o Gp (V 8) (nI M) 10)) ∧ fv V V9 ∧ V9 7 = V 7 ∧ gK I I9 ∧ fq J J9) (noX)) (upd Va 14 (nI (fj nr ns p (Gp p) n).1)) I8 J8 21 [(5, .int (nI k)), (4, .int (nI p)), (2, .long (dS nr ns n o Gp (V 8) (nI M) p + sS (fj nr ns p (Gp p) n).2.2 o (V 8) (nI M) k)), (0, .ref (G.2.1 7)), (1, .int (nI o))] [] := by
        intro k8
        induction k8 with
        | zero =>
          intro I8 J8 k hp1 hK8 hJ8 hF8 hcn hk hk8
          omega
        | succ k8 ih1 =>
          intro I8 J8 k hp1 hK8 hJ8 hF8 hcn hk hk8
          refine g_iload hC dX7_dueTo_21 0 rfl ?_
          refine g_aload_n hC dX7_dueTo_23 rfl 3 rfl ?_
          refine gf_X7_159 hC dX7_dueTo_24 ?_
          refine g_eqI (x' := nI (fj nr ns p (Gp p) n).1) (by rw [pk_us]) ?_
          refine g_icmp_ge hC 63 dX7_dueTo_27 (by decide) (fun c_27 => ?_) (fun c_27 => ?_)
          · have d_27 : (fj nr ns p (Gp p) n).1 ≤ k := (nI_leI (by omega) (by omega)).mp c_27
            have hkc : k = (fj nr ns p (Gp p) n).1 := by omega
            refine g_at rfl (lv2 := [(5, .int (nI k)), (4, .int (nI p)), (2, .long (dS nr ns n o Gp (V 8) (nI M) (p + 1))), (0, .ref (G.2.1 7)), (1, .int (nI o))]) (by rw [hkc]; rfl) rfl ?_
            refine g_iinc (v := nI (p + 1)) hC [(4, .int (nI (p + 1))), (5, .int (nI k)), (2, .long (dS nr ns n o Gp (V 8) (nI M) (p + 1))), (0, .ref (G.2.1 7)), (1, .int (nI o))] dX7_dueTo_63 1 rfl (nI_i1 _) (by decide) rfl ?_
            refine g_goto hC 5 dX7_dueTo_66 (by decide) ?_
            refine g_lv [0, 2, 3, 4] (lv2 := [(4, .int (nI (p + 1))), (2, .long (dS nr ns n o Gp (V 8) (nI M) (p + 1))), (0, .ref (G.2.1 7)), (1, .int (nI o))]) rfl ?_
            exact ih (upd Va 14 (nI (fj nr ns p (Gp p) n).1)) I8 J8 (p + 1) (fv_tr hVa (fv_14 _ _)) ((pk_un (by decide)).trans h7) hK8 hJ8 (by omega) (by omega)
          · have d_27 : ¬ (fj nr ns p (Gp p) n).1 ≤ k := fun q => c_27 ((nI_leI (by omega) (by omega)).mpr q)
            obtain ⟨y1, y2, y3, y4, y5⟩ := hF8.1 k (by omega)
            refine g_lload_n hC dX7_dueTo_30 rfl 2 rfl ?_
            refine g_aload_n hC dX7_dueTo_31 rfl 3 rfl ?_
            refine g_iload hC dX7_dueTo_32 0 rfl ?_
            refine g_cV hC [.int (nI k)] 7 (m_X7_isOver hl hG (upd Va 14 (nI (fj nr ns p (Gp p) n).1)) I8 J8 k (by omega)) rfl (st2 := [.int ((if (upd Va 14 (nI (fj nr ns p (Gp p) n).1)) 8 - I8 75 k < nI 60 then nI 0 else nI 1)), .long (dS nr ns n o Gp (V 8) (nI M) p + sS (fj nr ns p (Gp p) n).2.2 o (V 8) (nI M) k)]) rfl (by decide) rfl rfl rfl tw_910 tw_912 tw_28 tw_38 tw_913 pd_X7_isOver ⟨rfl, rfl⟩ (by rw [hRm]; exact ⟨Nat.le_of_ble_eq_true rfl, Nat.le_of_ble_eq_true rfl, Nat.le_of_ble_eq_true rfl, Nat.le_of_ble_eq_true rfl⟩) (Nat.le_of_ble_eq_true rfl) dX7_dueTo_34 ?_
            refine g_eqI (x' := (if V 8 - (fj nr ns p (Gp p) n).2.2 25 k < nI 60 then nI 0 else nI 1)) (by rw [y2, pk_un (by decide), hVa 8 (by decide) (by decide)]) ?_
            refine g_if_eq hC 54 dX7_dueTo_37 (by decide) (fun c_37 => ?_) (fun c_37 => ?_)
            · have hq := ite01_f c_37
              have hsum : dS nr ns n o Gp (V 8) (nI M) p + sS (fj nr ns p (Gp p) n).2.2 o (V 8) (nI M) k + 0 = dS nr ns n o Gp (V 8) (nI M) p + sS (fj nr ns p (Gp p) n).2.2 o (V 8) (nI M) (k + 1) := (Int64.add_zero _).trans (congrArg (dS nr ns n o Gp (V 8) (nI M) p + ·) (if_pos hq).symm)
              refine g_lconst (v := 0) hC dX7_dueTo_54 (by decide) ?_
              refine g_ladd hC dX7_dueTo_55 ?_
              refine g_eqL (x' := dS nr ns n o Gp (V 8) (nI M) p + sS (fj nr ns p (Gp p) n).2.2 o (V 8) (nI M) (k + 1)) hsum ?_
              refine g_lstore_n hC [(2, .long (dS nr ns n o Gp (V 8) (nI M) p + sS (fj nr ns p (Gp p) n).2.2 o (V 8) (nI M) (k + 1))), (5, .int (nI k)), (4, .int (nI p)), (0, .ref (G.2.1 7)), (1, .int (nI o))] dX7_dueTo_56 rfl (by decide) rfl ?_
              refine g_iinc (v := nI (k + 1)) hC [(5, .int (nI (k + 1))), (2, .long (dS nr ns n o Gp (V 8) (nI M) p + sS (fj nr ns p (Gp p) n).2.2 o (V 8) (nI M) (k + 1))), (4, .int (nI p)), (0, .ref (G.2.1 7)), (1, .int (nI o))] dX7_dueTo_57 1 rfl (nI_i1 _) (by decide) rfl ?_
              refine g_goto hC 21 dX7_dueTo_60 (by decide) ?_
              refine g_lv [0, 2, 1, 3, 4] (lv2 := [(5, .int (nI (k + 1))), (4, .int (nI p)), (2, .long (dS nr ns n o Gp (V 8) (nI M) p + sS (fj nr ns p (Gp p) n).2.2 o (V 8) (nI M) (k + 1))), (0, .ref (G.2.1 7)), (1, .int (nI o))]) rfl ?_
              exact ih1 I8 J8 (k + 1) hp1 hK8 hJ8 hF8 hcn (by omega) (by omega)
            · have hq := ite01_t c_37
              have hsum : dS nr ns n o Gp (V 8) (nI M) p + sS (fj nr ns p (Gp p) n).2.2 o (V 8) (nI M) k + (shr (fj nr ns p (Gp p) n).2.2 k o (nI M)).toInt64 = dS nr ns n o Gp (V 8) (nI M) p + sS (fj nr ns p (Gp p) n).2.2 o (V 8) (nI M) (k + 1) := (Int64.add_assoc _ _ _).trans (congrArg (dS nr ns n o Gp (V 8) (nI M) p + ·) (if_neg hq).symm)
              refine g_aload_n hC dX7_dueTo_40 rfl 3 rfl ?_
              refine gf_X7_100 hC dX7_dueTo_41 ?_
              refine g_iconst (v := nI 4) hC dX7_dueTo_44 (by decide) ?_
              refine g_iload hC dX7_dueTo_45 0 rfl ?_
              refine g_imul hC dX7_dueTo_47 ?_
              refine g_eqI (x' := nI (4 * k)) (pk_mul _ _) ?_
              refine g_iload_n hC dX7_dueTo_48 rfl 4 rfl ?_
              refine g_iadd hC dX7_dueTo_49 ?_
              refine g_eqI (x' := nI ((4 * k) + o)) (nI_add _ _) ?_
              refine n_lald hC 79 aa_79 ((4 * k) + o) (show (4 * k) + o < 400 by omega) dX7_dueTo_50 ?_
              refine g_eqL (x' := (shr (fj nr ns p (Gp p) n).2.2 k o (nI M)).toInt64) (y5 o ho) ?_
              refine g_goto hC 55 dX7_dueTo_51 (by decide) ?_
              refine g_ladd hC dX7_dueTo_55 ?_
              refine g_eqL (x' := dS nr ns n o Gp (V 8) (nI M) p + sS (fj nr ns p (Gp p) n).2.2 o (V 8) (nI M) (k + 1)) hsum ?_
              refine g_lstore_n hC [(2, .long (dS nr ns n o Gp (V 8) (nI M) p + sS (fj nr ns p (Gp p) n).2.2 o (V 8) (nI M) (k + 1))), (5, .int (nI k)), (4, .int (nI p)), (0, .ref (G.2.1 7)), (1, .int (nI o))] dX7_dueTo_56 rfl (by decide) rfl ?_
              refine g_iinc (v := nI (k + 1)) hC [(5, .int (nI (k + 1))), (2, .long (dS nr ns n o Gp (V 8) (nI M) p + sS (fj nr ns p (Gp p) n).2.2 o (V 8) (nI M) (k + 1))), (4, .int (nI p)), (0, .ref (G.2.1 7)), (1, .int (nI o))] dX7_dueTo_57 1 rfl (nI_i1 _) (by decide) rfl ?_
              refine g_goto hC 21 dX7_dueTo_60 (by decide) ?_
              refine g_lv [0, 2, 1, 3, 4] (lv2 := [(5, .int (nI (k + 1))), (4, .int (nI p)), (2, .long (dS nr ns n o Gp (V 8) (nI M) p + sS (fj nr ns p (Gp p) n).2.2 o (V 8) (nI M) (k + 1))), (0, .ref (G.2.1 7)), (1, .int (nI o))]) rfl ?_
              exact ih1 I8 J8 (k + 1) hp1 hK8 hJ8 hF8 hcn (by omega) (by omega)
      refine g_iload hC dX7_dueTo_5 0 rfl ?_
      refine g_bipush (v := nI 10) hC dX7_dueTo_7 (by decide) ?_
      refine g_icmp_ge hC 69 dX7_dueTo_9 (by decide) (fun c_9 => ?_) (fun c_9 => ?_)
      · have d_9 : 10 ≤ p := (nI_leI (by omega) (by omega)).mp c_9
        refine g_lload_n hC dX7_dueTo_69 rfl 1 rfl ?_
        exact g_lret hC hr dX7_dueTo_70 (Nat.le_of_ble_eq_true rfl) (Nat.le_of_ble_eq_true rfl) ⟨by rw [show p = 10 by omega], hVa, h7, hKa, hJa⟩
      · have d_9 : ¬ 10 ≤ p := fun q => c_9 ((nI_leI (by omega) (by omega)).mpr q)
        refine g_aload_n hC dX7_dueTo_12 rfl 2 rfl ?_
        refine g_iload hC dX7_dueTo_13 0 rfl ?_
        have hc9 := cGd_x hc hVa hKa
        have hx9 := eqy_k (hx p (by omega)) hKa
        have hcn := fj_n (plate := p) hc9 hx9
        refine g_cVr hC [.int (nI p)] 7 (m_X7_goesC hl hG Va Ia Ja nr n ns p M (Gp p) hc9 hx9 (by omega)) rfl (by decide) rfl rfl rfl tw_873 tw_875 tw_19 tw_38 tw_876 pd_X7_goes ⟨rfl, rfl⟩ (by rw [hRm]; exact ⟨Nat.le_of_ble_eq_true rfl, Nat.le_of_ble_eq_true rfl, Nat.le_of_ble_eq_true rfl, Nat.le_of_ble_eq_true rfl⟩) (Nat.le_of_ble_eq_true rfl) dX7_dueTo_15 (fun r9 V9 I9 J9 hp9 => ?_)
        obtain ⟨rfl, hVq, hK8, hJ8, hF8⟩ := hp9
        have hVq := hVq.symm
        subst hVq
        refine g_at rfl rfl (st2 := []) rfl ?_
        refine g_iconst (v := nI 0) hC dX7_dueTo_18 (by decide) ?_
        refine g_istore hC [(5, .int (nI 0)), (4, .int (nI p)), (2, .long (dS nr ns n o Gp (V 8) (nI M) p)), (0, .ref (G.2.1 7)), (1, .int (nI o))] dX7_dueTo_19 (by decide) rfl ?_
        refine g_at rfl (lv2 := [(5, .int (nI 0)), (4, .int (nI p)), (2, .long (dS nr ns n o Gp (V 8) (nI M) p + sS (fj nr ns p (Gp p) n).2.2 o (V 8) (nI M) 0)), (0, .ref (G.2.1 7)), (1, .int (nI o))]) (by rw [show sS (fj nr ns p (Gp p) n).2.2 o (V 8) (nI M) 0 = 0 from rfl, Int64.add_zero]) rfl ?_
        exact lp_21 ((fj nr ns p (Gp p) n).1 + 1) I9 J9 0 (by omega) (gK_tr hKa hK8) (fq_tr hJa hJ8) hF8 hcn (by omega) (by omega)
  refine g_lconst (v := 0) hC dX7_dueTo_0 (by decide) ?_
  refine g_lstore_n hC [(2, .long 0), (0, .ref (G.2.1 7)), (1, .int (nI o))] dX7_dueTo_1 rfl (by decide) rfl ?_
  refine g_iconst (v := nI 0) hC dX7_dueTo_2 (by decide) ?_
  refine g_istore hC [(4, .int (nI 0)), (2, .long 0), (0, .ref (G.2.1 7)), (1, .int (nI o))] dX7_dueTo_3 (by decide) rfl ?_
  exact lp_5 11 V I J 0 (fv_rf V) rfl (gK_rf I) (fq_rf J) (by omega) (by omega)
