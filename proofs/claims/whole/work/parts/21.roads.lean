set_option maxRecDepth 100000 in
theorem m_X4_addGate {l : Launch} {G : wG} (hl : l.stackTraces = false) (hG : wD G) (V : wV) (I : wI) (J : wJ) (g : Nat) (hn : V 1 = nI g) : Ctr l yX4_addGate cX4_addGate 2 (some .int) { frames := 0, cells := 0, slots := 0, locals := 0 } G [.ref (G.2.1 1)] V I J (pU (some (.int (nI g))) (upd V 1 (nI (g + 1))) I J) (noX) := by
  refine ctr_of hl hG (by decide) (Nat.le_of_ble_eq_true rfl) [(0, .ref (G.2.1 1))] rfl ?_
  intro K hC hKl hRm hr hT
  subst hKl
  have hC : Cx K G RX4 cX4_addGate 2 := hC
  refine g_aload_n hC dX4_addGate_0 rfl 0 rfl ?_
  refine gf_X4_30 hC dX4_addGate_1 ?_
  refine g_eqI (x' := nI g) (by rw [hn]) ?_
  refine g_istore_n hC [(1, .int (nI g)), (0, .ref (G.2.1 1))] dX4_addGate_4 rfl (by decide) rfl ?_
  refine g_aload_n hC dX4_addGate_5 rfl 1 rfl ?_
  refine g_dup hC dX4_addGate_6 rfl ?_
  refine gf_X4_30 hC dX4_addGate_7 ?_
  refine g_eqI (x' := nI g) (by rw [hn]) ?_
  refine g_iconst (v := nI 1) hC dX4_addGate_10 (by decide) ?_
  refine g_iadd hC dX4_addGate_11 ?_
  refine g_eqI (x' := nI (g + 1)) (nI_add _ _) ?_
  refine gp_X4_30 hC dX4_addGate_12 ?_
  refine g_iload_n hC dX4_addGate_15 rfl 0 rfl ?_
  exact g_iret hC hr dX4_addGate_16 (Nat.le_of_ble_eq_true rfl) (Nat.le_of_ble_eq_true rfl) ⟨rfl, rfl, rfl, rfl⟩

set_option maxRecDepth 100000 in
theorem m_X4_shortenDistances {l : Launch} {G : wG} (hl : l.stackTraces = false) (hG : wD G) (V : wV) (I : wI) (J : wJ) (a b : Nat) (l9 : Int32) (g : Nat) (hn : V 1 = nI g) (h1 : g ≤ 12) (h2 : a < 12) (h3 : b < 12) : Ctr l yX4_shortenDistances cX4_shortenDistances 9 none { frames := 1, cells := 0, slots := 0, locals := 30 } G [.ref (G.2.1 1), .int (nI a), .int (nI b), .int l9] V I J (pU none V (sdF I a b l9 g g) J) (noX) := by
  refine ctr_of hl hG (by decide) (Nat.le_of_ble_eq_true rfl) [(0, .ref (G.2.1 1)), (1, .int (nI a)), (2, .int (nI b)), (3, .int l9)] rfl ?_
  intro K hC hKl hRm hr hT
  subst hKl
  have hC : Cx K G RX4 cX4_shortenDistances 9 := hC
  have lp_3 : ∀ (k9 : Nat) (f : Nat) (hf : f ≤ g) (hk : g < f + k9), WW K G 0 0 (QM K G { frames := 1, cells := 0, slots := 0, locals := 30 } (pU none V (sdF I a b l9 g g) J) (noX)) V (sdF I a b l9 g f) J 3 [(4, .int (nI f)), (0, .ref (G.2.1 1)), (1, .int (nI a)), (2, .int (nI b)), (3, .int l9)] [] := by
    intro k9
    induction k9 with
    | zero =>
      intro f hf hk
      omega
    | succ k9 ih =>
      intro f hf hk
      have lp_15 : ∀ (k8 : Nat) (t : Nat) (ht : t ≤ g) (hlt : f < g) (hk8 : g < t + k8), WW K G 0 0 (QM K G { frames := 1, cells := 0, slots := 0, locals := 30 } (pU none V (sdF I a b l9 g g) J) (noX)) V (sdT (sdF I a b l9 g f) a b l9 f t) J 15 [(5, .int (nI t)), (4, .int (nI f)), (0, .ref (G.2.1 1)), (1, .int (nI a)), (2, .int (nI b)), (3, .int l9)] [] := by
        intro k8
        induction k8 with
        | zero =>
          intro t ht hlt hk8
          omega
        | succ k8 ih1 =>
          intro t ht hlt hk8
          refine g_iload hC dX4_shortenDistances_15 0 rfl ?_
          refine g_aload_n hC dX4_shortenDistances_17 rfl 2 rfl ?_
          refine gf_X4_30 hC dX4_shortenDistances_18 ?_
          refine g_eqI (x' := nI g) (by rw [hn]) ?_
          refine g_icmp_ge hC 110 dX4_shortenDistances_21 (by decide) (fun c_21 => ?_) (fun c_21 => ?_)
          · have d_21 : g ≤ t := (nI_leI (by omega) (by omega)).mp c_21
            refine g_st (V1 := V) (I1 := (sdF I a b l9 g (f + 1))) (J1 := J) rfl (by rw [show t = g by omega]; rfl) rfl ?_
            refine g_iinc (v := nI (f + 1)) hC [(4, .int (nI (f + 1))), (5, .int (nI t)), (0, .ref (G.2.1 1)), (1, .int (nI a)), (2, .int (nI b)), (3, .int l9)] dX4_shortenDistances_110 1 rfl (nI_i1 _) (by decide) rfl ?_
            refine g_goto hC 3 dX4_shortenDistances_113 (by decide) ?_
            refine g_lv [0, 2, 3, 4, 5] (lv2 := [(4, .int (nI (f + 1))), (0, .ref (G.2.1 1)), (1, .int (nI a)), (2, .int (nI b)), (3, .int l9)]) rfl ?_
            exact ih (f + 1) (by omega) (by omega)
          · have d_21 : ¬ g ≤ t := fun q => c_21 ((nI_leI (by omega) (by omega)).mpr q)
            refine g_aload_n hC dX4_shortenDistances_24 rfl 2 rfl ?_
            refine gf_X4_26 hC dX4_shortenDistances_25 ?_
            refine g_iload hC dX4_shortenDistances_28 1 rfl ?_
            refine n_aald33 hC f (show f < 12 by omega) dX4_shortenDistances_30 ?_
            refine g_iload_n hC dX4_shortenDistances_31 rfl 3 rfl ?_
            refine n_iald hC (35 + f) (ar_33 (show f < 12 by omega)) a (by rw [al_33 (show f < 12 by omega)]; omega) dX4_shortenDistances_32 ?_
            refine g_iload_n hC dX4_shortenDistances_33 rfl 5 rfl ?_
            refine g_iadd hC dX4_shortenDistances_34 ?_
            refine g_aload_n hC dX4_shortenDistances_35 rfl 2 rfl ?_
            refine gf_X4_26 hC dX4_shortenDistances_36 ?_
            refine g_iload_n hC dX4_shortenDistances_39 rfl 4 rfl ?_
            refine n_aald33 hC b (show b < 12 by omega) dX4_shortenDistances_40 ?_
            refine g_iload hC dX4_shortenDistances_41 0 rfl ?_
            refine n_iald hC (35 + b) (ar_33 (show b < 12 by omega)) t (by rw [al_33 (show b < 12 by omega)]; omega) dX4_shortenDistances_43 ?_
            refine g_iadd hC dX4_shortenDistances_44 ?_
            refine g_istore hC [(6, .int ((((sdT (sdF I a b l9 g f) a b l9 f t) (35 + f) a) + (l9)) + ((sdT (sdF I a b l9 g f) a b l9 f t) (35 + b) t))), (5, .int (nI t)), (4, .int (nI f)), (0, .ref (G.2.1 1)), (1, .int (nI a)), (2, .int (nI b)), (3, .int l9)] dX4_shortenDistances_45 (by decide) rfl ?_
            refine g_aload_n hC dX4_shortenDistances_47 rfl 3 rfl ?_
            refine gf_X4_26 hC dX4_shortenDistances_48 ?_
            refine g_iload hC dX4_shortenDistances_51 2 rfl ?_
            refine n_aald33 hC f (show f < 12 by omega) dX4_shortenDistances_53 ?_
            refine g_iload_n hC dX4_shortenDistances_54 rfl 5 rfl ?_
            refine n_iald hC (35 + f) (ar_33 (show f < 12 by omega)) b (by rw [al_33 (show f < 12 by omega)]; omega) dX4_shortenDistances_55 ?_
            refine g_iload_n hC dX4_shortenDistances_56 rfl 6 rfl ?_
            refine g_iadd hC dX4_shortenDistances_57 ?_
            refine g_aload_n hC dX4_shortenDistances_58 rfl 3 rfl ?_
            refine gf_X4_26 hC dX4_shortenDistances_59 ?_
            refine g_iload_n hC dX4_shortenDistances_62 rfl 4 rfl ?_
            refine n_aald33 hC a (show a < 12 by omega) dX4_shortenDistances_63 ?_
            refine g_iload hC dX4_shortenDistances_64 1 rfl ?_
            refine n_iald hC (35 + a) (ar_33 (show a < 12 by omega)) t (by rw [al_33 (show a < 12 by omega)]; omega) dX4_shortenDistances_66 ?_
            refine g_iadd hC dX4_shortenDistances_67 ?_
            refine g_istore hC [(7, .int ((((sdT (sdF I a b l9 g f) a b l9 f t) (35 + f) b) + (l9)) + ((sdT (sdF I a b l9 g f) a b l9 f t) (35 + a) t))), (6, .int ((((sdT (sdF I a b l9 g f) a b l9 f t) (35 + f) a) + (l9)) + ((sdT (sdF I a b l9 g f) a b l9 f t) (35 + b) t))), (5, .int (nI t)), (4, .int (nI f)), (0, .ref (G.2.1 1)), (1, .int (nI a)), (2, .int (nI b)), (3, .int l9)] dX4_shortenDistances_68 (by decide) rfl ?_
            refine g_iload hC dX4_shortenDistances_70 1 rfl ?_
            refine g_iload hC dX4_shortenDistances_72 0 rfl ?_
            refine g_min hC tw_504 tw_min_s tw_min_i tw_min_c (by rw [hRm]; decide) (by rw [hRm]; exact Nat.le_of_ble_eq_true rfl) (by rw [hRm]; exact Nat.le_of_ble_eq_true rfl) (by rw [hRm]; exact Nat.le_of_ble_eq_true rfl) dX4_shortenDistances_74 ?_
            refine g_istore hC [(8, .int ((if (((sdT (sdF I a b l9 g f) a b l9 f t) (35 + f) b) + (l9)) + ((sdT (sdF I a b l9 g f) a b l9 f t) (35 + a) t) < (((sdT (sdF I a b l9 g f) a b l9 f t) (35 + f) a) + (l9)) + ((sdT (sdF I a b l9 g f) a b l9 f t) (35 + b) t) then (((sdT (sdF I a b l9 g f) a b l9 f t) (35 + f) b) + (l9)) + ((sdT (sdF I a b l9 g f) a b l9 f t) (35 + a) t) else (((sdT (sdF I a b l9 g f) a b l9 f t) (35 + f) a) + (l9)) + ((sdT (sdF I a b l9 g f) a b l9 f t) (35 + b) t)))), (7, .int ((((sdT (sdF I a b l9 g f) a b l9 f t) (35 + f) b) + (l9)) + ((sdT (sdF I a b l9 g f) a b l9 f t) (35 + a) t))), (6, .int ((((sdT (sdF I a b l9 g f) a b l9 f t) (35 + f) a) + (l9)) + ((sdT (sdF I a b l9 g f) a b l9 f t) (35 + b) t))), (5, .int (nI t)), (4, .int (nI f)), (0, .ref (G.2.1 1)), (1, .int (nI a)), (2, .int (nI b)), (3, .int l9)] dX4_shortenDistances_77 (by decide) rfl ?_
            refine g_aload_n hC dX4_shortenDistances_79 rfl 5 rfl ?_
            refine gf_X4_26 hC dX4_shortenDistances_80 ?_
            refine g_iload hC dX4_shortenDistances_83 4 rfl ?_
            refine n_aald33 hC f (show f < 12 by omega) dX4_shortenDistances_85 ?_
            refine g_iload hC dX4_shortenDistances_86 3 rfl ?_
            refine g_aload_n hC dX4_shortenDistances_88 rfl 5 rfl ?_
            refine gf_X4_26 hC dX4_shortenDistances_89 ?_
            refine g_iload hC dX4_shortenDistances_92 4 rfl ?_
            refine n_aald33 hC f (show f < 12 by omega) dX4_shortenDistances_94 ?_
            refine g_iload hC dX4_shortenDistances_95 3 rfl ?_
            refine n_iald hC (35 + f) (ar_33 (show f < 12 by omega)) t (by rw [al_33 (show f < 12 by omega)]; omega) dX4_shortenDistances_97 ?_
            refine g_iload hC dX4_shortenDistances_98 0 rfl ?_
            refine g_min hC tw_504 tw_min_s tw_min_i tw_min_c (by rw [hRm]; decide) (by rw [hRm]; exact Nat.le_of_ble_eq_true rfl) (by rw [hRm]; exact Nat.le_of_ble_eq_true rfl) (by rw [hRm]; exact Nat.le_of_ble_eq_true rfl) dX4_shortenDistances_100 ?_
            refine n_iast hC (35 + f) (ar_33 (show f < 12 by omega)) t (by rw [al_33 (show f < 12 by omega)]; omega) dX4_shortenDistances_103 ?_
            refine g_iinc (v := nI (t + 1)) hC [(5, .int (nI (t + 1))), (8, .int ((if (((sdT (sdF I a b l9 g f) a b l9 f t) (35 + f) b) + (l9)) + ((sdT (sdF I a b l9 g f) a b l9 f t) (35 + a) t) < (((sdT (sdF I a b l9 g f) a b l9 f t) (35 + f) a) + (l9)) + ((sdT (sdF I a b l9 g f) a b l9 f t) (35 + b) t) then (((sdT (sdF I a b l9 g f) a b l9 f t) (35 + f) b) + (l9)) + ((sdT (sdF I a b l9 g f) a b l9 f t) (35 + a) t) else (((sdT (sdF I a b l9 g f) a b l9 f t) (35 + f) a) + (l9)) + ((sdT (sdF I a b l9 g f) a b l9 f t) (35 + b) t)))), (7, .int ((((sdT (sdF I a b l9 g f) a b l9 f t) (35 + f) b) + (l9)) + ((sdT (sdF I a b l9 g f) a b l9 f t) (35 + a) t))), (6, .int ((((sdT (sdF I a b l9 g f) a b l9 f t) (35 + f) a) + (l9)) + ((sdT (sdF I a b l9 g f) a b l9 f t) (35 + b) t))), (4, .int (nI f)), (0, .ref (G.2.1 1)), (1, .int (nI a)), (2, .int (nI b)), (3, .int l9)] dX4_shortenDistances_104 3 rfl (nI_i1 _) (by decide) rfl ?_
            refine g_goto hC 15 dX4_shortenDistances_107 (by decide) ?_
            refine g_lv [0, 4, 5, 6, 7, 8] (lv2 := [(5, .int (nI (t + 1))), (4, .int (nI f)), (0, .ref (G.2.1 1)), (1, .int (nI a)), (2, .int (nI b)), (3, .int l9)]) rfl ?_
            exact ih1 (t + 1) (by omega) hlt (by omega)
      refine g_iload hC dX4_shortenDistances_3 0 rfl ?_
      refine g_aload_n hC dX4_shortenDistances_5 rfl 1 rfl ?_
      refine gf_X4_30 hC dX4_shortenDistances_6 ?_
      refine g_eqI (x' := nI g) (by rw [hn]) ?_
      refine g_icmp_ge hC 116 dX4_shortenDistances_9 (by decide) (fun c_9 => ?_) (fun c_9 => ?_)
      · have d_9 : g ≤ f := (nI_leI (by omega) (by omega)).mp c_9
        exact g_vret hC hr dX4_shortenDistances_116 (Nat.le_of_ble_eq_true rfl) (Nat.le_of_ble_eq_true rfl) ⟨rfl, rfl, by rw [show f = g by omega], rfl⟩
      · have d_9 : ¬ g ≤ f := fun q => c_9 ((nI_leI (by omega) (by omega)).mpr q)
        refine g_iconst (v := nI 0) hC dX4_shortenDistances_12 (by decide) ?_
        refine g_istore hC [(5, .int (nI 0)), (4, .int (nI f)), (0, .ref (G.2.1 1)), (1, .int (nI a)), (2, .int (nI b)), (3, .int l9)] dX4_shortenDistances_13 (by decide) rfl ?_
        exact lp_15 (g + 1) 0 (by omega) (by omega) (by omega)
  refine g_iconst (v := nI 0) hC dX4_shortenDistances_0 (by decide) ?_
  refine g_istore hC [(4, .int (nI 0)), (0, .ref (G.2.1 1)), (1, .int (nI a)), (2, .int (nI b)), (3, .int l9)] dX4_shortenDistances_1 (by decide) rfl ?_
  exact lp_3 (g + 1) 0 (by omega) (by omega)

set_option maxRecDepth 100000 in
theorem m_X4_addRoad {l : Launch} {G : wG} (hl : l.stackTraces = false) (hG : wD G) (V : wV) (I : wI) (J : wJ) (n g a b : Nat) (l9 o9 : Int32) (hn : V 2 = nI n) (hg : V 1 = nI g) (h0 : n < 24) (h1 : g ≤ 12) (h2 : a < 12) (h3 : b < 12) : Ctr l yX4_addRoad cX4_addRoad 6 (some .int) { frames := 2, cells := 0, slots := 0, locals := 58 } G [.ref (G.2.1 1), .int (nI a), .int (nI b), .int l9, .int o9] V I J (pU (some (.int (nI n))) (upd V 2 (nI (n + 1))) (sdF (uI (uI (uI (uI I 8 (upd (I 8) n (nI a))) 9 (upd (I 9) n (nI b))) 10 (upd (I 10) n l9)) 11 (upd (I 11) n o9)) a b l9 g g) J) (noX) := by
  refine ctr_of hl hG (by decide) (Nat.le_of_ble_eq_true rfl) [(0, .ref (G.2.1 1)), (1, .int (nI a)), (2, .int (nI b)), (3, .int l9), (4, .int o9)] rfl ?_
  intro K hC hKl hRm hr hT
  subst hKl
  have hC : Cx K G RX4 cX4_addRoad 6 := hC
  refine g_aload_n hC dX4_addRoad_0 rfl 0 rfl ?_
  refine gf_X4_34 hC dX4_addRoad_1 ?_
  refine g_eqI (x' := nI n) (by rw [hn]) ?_
  refine g_istore hC [(5, .int (nI n)), (0, .ref (G.2.1 1)), (1, .int (nI a)), (2, .int (nI b)), (3, .int l9), (4, .int o9)] dX4_addRoad_4 (by decide) rfl ?_
  refine g_aload_n hC dX4_addRoad_6 rfl 1 rfl ?_
  refine gf_X4_9 hC dX4_addRoad_7 ?_
  refine g_iload hC dX4_addRoad_10 0 rfl ?_
  refine g_iload_n hC dX4_addRoad_12 rfl 2 rfl ?_
  refine n_iast hC 8 aa_8 n (show n < 24 by omega) dX4_addRoad_13 ?_
  refine g_aload_n hC dX4_addRoad_14 rfl 1 rfl ?_
  refine gf_X4_15 hC dX4_addRoad_15 ?_
  refine g_iload hC dX4_addRoad_18 0 rfl ?_
  refine g_iload_n hC dX4_addRoad_20 rfl 3 rfl ?_
  refine n_iast hC 9 aa_9 n (show n < 24 by omega) dX4_addRoad_21 ?_
  refine g_aload_n hC dX4_addRoad_22 rfl 1 rfl ?_
  refine gf_X4_18 hC dX4_addRoad_23 ?_
  refine g_iload hC dX4_addRoad_26 0 rfl ?_
  refine g_iload_n hC dX4_addRoad_28 rfl 4 rfl ?_
  refine n_iast hC 10 aa_10 n (show n < 24 by omega) dX4_addRoad_29 ?_
  refine g_aload_n hC dX4_addRoad_30 rfl 1 rfl ?_
  refine gf_X4_21 hC dX4_addRoad_31 ?_
  refine g_iload hC dX4_addRoad_34 0 rfl ?_
  refine g_iload hC dX4_addRoad_36 5 rfl ?_
  refine n_iast hC 11 aa_11 n (show n < 24 by omega) dX4_addRoad_38 ?_
  refine g_aload_n hC dX4_addRoad_39 rfl 1 rfl ?_
  refine g_dup hC dX4_addRoad_40 rfl ?_
  refine gf_X4_34 hC dX4_addRoad_41 ?_
  refine g_eqI (x' := nI n) (by rw [hn]) ?_
  refine g_iconst (v := nI 1) hC dX4_addRoad_44 (by decide) ?_
  refine g_iadd hC dX4_addRoad_45 ?_
  refine g_eqI (x' := nI (n + 1)) (nI_add _ _) ?_
  refine gp_X4_34 hC dX4_addRoad_46 ?_
  refine g_aload_n hC dX4_addRoad_49 rfl 1 rfl ?_
  refine g_iload_n hC dX4_addRoad_50 rfl 2 rfl ?_
  refine g_iload_n hC dX4_addRoad_51 rfl 3 rfl ?_
  refine g_iload_n hC dX4_addRoad_52 rfl 4 rfl ?_
  refine g_cV hC [.int (nI a), .int (nI b), .int l9] 1 (m_X4_shortenDistances hl hG (upd V 2 (nI (n + 1))) (uI (uI (uI (uI I 8 (upd (I 8) n (nI a))) 9 (upd ((uI I 8 (upd (I 8) n (nI a))) 9) n (nI b))) 10 (upd ((uI (uI I 8 (upd (I 8) n (nI a))) 9 (upd ((uI I 8 (upd (I 8) n (nI a))) 9) n (nI b))) 10) n (l9))) 11 (upd ((uI (uI (uI I 8 (upd (I 8) n (nI a))) 9 (upd ((uI I 8 (upd (I 8) n (nI a))) 9) n (nI b))) 10 (upd ((uI (uI I 8 (upd (I 8) n (nI a))) 9 (upd ((uI I 8 (upd (I 8) n (nI a))) 9) n (nI b))) 10) n (l9))) 11) n (o9))) J a b l9 g ((pk_un (by decide)).trans hg) h1 h2 h3) rfl (st2 := []) rfl (by decide) rfl rfl rfl tw_500 tw_502 tw_10 tw_32 tw_503 pd_X4_shortenDistances ⟨rfl, rfl⟩ (by rw [hRm]; exact ⟨Nat.le_of_ble_eq_true rfl, Nat.le_of_ble_eq_true rfl, Nat.le_of_ble_eq_true rfl, Nat.le_of_ble_eq_true rfl⟩) (Nat.le_of_ble_eq_true rfl) dX4_addRoad_53 ?_
  refine g_iload hC dX4_addRoad_56 0 rfl ?_
  exact g_iret hC hr dX4_addRoad_58 (Nat.le_of_ble_eq_true rfl) (Nat.le_of_ble_eq_true rfl) ⟨rfl, rfl, rfl, rfl⟩

set_option maxRecDepth 100000 in
theorem m_X4_roadOfWay {l : Launch} {G : wG} (hl : l.stackTraces = false) (hG : wD G) (V : wV) (I : wI) (J : wJ) (n a0 goal : Nat) (place : Int32) (hn : V 2 = nI n) (hw : wfR I n) (h2 : a0 < 12) (h3 : goal < 12) : Ctr l yX4_roadOfWay cX4_roadOfWay 7 (some .int) { frames := 2, cells := 0, slots := 0, locals := 46 } G [.ref (G.2.1 1), .int (nI a0), .int (nI goal), .int place] V I J (pU (some (.int (rW I n goal place 12 0 (nI a0)))) V I J) (noX) := by
  refine ctr_of hl hG (by decide) (Nat.le_of_ble_eq_true rfl) [(0, .ref (G.2.1 1)), (1, .int (nI a0)), (2, .int (nI goal)), (3, .int place)] rfl ?_
  intro K hC hKl hRm hr hT
  subst hKl
  have hC : Cx K G RX4 cX4_roadOfWay 7 := hC
  have hn24 := hw.1
  have lp_6 : ∀ (k9 : Nat) (i at9 : Nat) (hi : i ≤ 12) (hk : 12 < i + k9) (ha : at9 < 12) (hf : rW I n goal place 12 0 (nI a0) = rW I n goal place (12 - i) i (nI at9)), WW K G 0 0 (QM K G { frames := 2, cells := 0, slots := 0, locals := 46 } (pU (some (.int (rW I n goal place 12 0 (nI a0)))) V I J) (noX)) V I J 6 [(5, .int (nI i)), (4, .int (nI at9)), (0, .ref (G.2.1 1)), (1, .int (nI a0)), (2, .int (nI goal)), (3, .int place)] [] := by
    intro k9
    induction k9 with
    | zero =>
      intro i at9 hi hk ha hf
      omega
    | succ k9 ih =>
      intro i at9 hi hk ha hf
      have hcl : (nI at9).toNatClampNeg = at9 := nI_clamp (by omega)
      refine g_iload hC dX4_roadOfWay_6 0 rfl ?_
      refine g_bipush (v := nI 12) hC dX4_roadOfWay_8 (by decide) ?_
      refine g_icmp_ge hC 53 dX4_roadOfWay_10 (by decide) (fun c_10 => ?_) (fun c_10 => ?_)
      · have d_10 : 12 ≤ i := (nI_leI (by omega) (by omega)).mp c_10
        refine g_iconst (v := (-1)) hC dX4_roadOfWay_53 (by decide) ?_
        exact g_iret hC hr dX4_roadOfWay_54 (Nat.le_of_ble_eq_true rfl) (Nat.le_of_ble_eq_true rfl) ⟨by rw [hf, show 12 - i = 0 by omega]; rfl, rfl, rfl, rfl⟩
      · have d_10 : ¬ 12 ≤ i := fun q => c_10 ((nI_leI (by omega) (by omega)).mpr q)
        refine g_aload_n hC dX4_roadOfWay_13 rfl 2 rfl ?_
        refine g_iload hC dX4_roadOfWay_14 1 rfl ?_
        refine g_iload_n hC dX4_roadOfWay_16 rfl 4 rfl ?_
        refine g_cV hC [.int (nI at9), .int (nI goal)] 1 (m_X4_roadTowards hl hG V I J n at9 goal hn hw (by omega) h3) rfl (st2 := [.int (rT I n at9 goal)]) rfl (by decide) rfl rfl rfl tw_606 tw_308 tw_309 tw_32 tw_310 pd_X4_roadTowards ⟨rfl, rfl⟩ (by rw [hRm]; exact ⟨Nat.le_of_ble_eq_true rfl, Nat.le_of_ble_eq_true rfl, Nat.le_of_ble_eq_true rfl, Nat.le_of_ble_eq_true rfl⟩) (Nat.le_of_ble_eq_true rfl) dX4_roadOfWay_17 ?_
        refine g_istore hC [(6, .int (rT I n at9 goal)), (5, .int (nI i)), (4, .int (nI at9)), (0, .ref (G.2.1 1)), (1, .int (nI a0)), (2, .int (nI goal)), (3, .int place)] dX4_roadOfWay_20 (by decide) rfl ?_
        refine g_iload hC dX4_roadOfWay_22 0 rfl ?_
        refine g_iconst (v := (-1)) hC dX4_roadOfWay_24 (by decide) ?_
        refine g_icmp_eq hC 34 dX4_roadOfWay_25 (by decide) (fun c_25 => ?_) (fun c_25 => ?_)
        · have hz : rW I n goal place 12 0 (nI a0) = rT I n at9 goal := by rw [hf, show 12 - i = (12 - (i + 1)) + 1 by omega]; show (if _ then _ else _) = _; rw [hcl, if_pos (Or.inl c_25)]
          refine g_iload hC dX4_roadOfWay_34 0 rfl ?_
          exact g_iret hC hr dX4_roadOfWay_36 (Nat.le_of_ble_eq_true rfl) (Nat.le_of_ble_eq_true rfl) ⟨by rw [hz], rfl, rfl, rfl⟩
        · have hq := rT_nI hw c_25
          refine g_iload hC dX4_roadOfWay_28 1 rfl ?_
          refine g_iload_n hC dX4_roadOfWay_30 rfl 6 rfl ?_
          refine g_icmp_ne hC 37 dX4_roadOfWay_31 (by decide) (fun c_31 => ?_) (fun c_31 => ?_)
          · refine g_aload_n hC dX4_roadOfWay_37 rfl 3 rfl ?_
            refine g_iload hC dX4_roadOfWay_38 0 rfl ?_
            refine g_eqI (x' := nI (rT I n at9 goal).toNatClampNeg) hq.2.1 ?_
            refine g_iload hC dX4_roadOfWay_40 2 rfl ?_
            refine g_cV hC [.int (nI (rT I n at9 goal).toNatClampNeg), .int (nI at9)] 1 (m_X4_otherEnd hl hG V I J (rT I n at9 goal).toNatClampNeg (nI at9) (by omega)) rfl (st2 := [.int (oE I ((rT I n at9 goal).toNatClampNeg) (nI at9))]) rfl (by decide) rfl rfl rfl tw_311 tw_312 tw_313 tw_32 tw_314 pd_X4_otherEnd ⟨rfl, rfl⟩ (by rw [hRm]; exact ⟨Nat.le_of_ble_eq_true rfl, Nat.le_of_ble_eq_true rfl, Nat.le_of_ble_eq_true rfl, Nat.le_of_ble_eq_true rfl⟩) (Nat.le_of_ble_eq_true rfl) dX4_roadOfWay_42 ?_
            have hq2 := oE_nI hw hq.1 (rT_oE hw c_25)
            refine g_eqI (x' := nI (oE I (rT I n at9 goal).toNatClampNeg (nI at9)).toNatClampNeg) hq2.2 ?_
            refine g_istore hC [(4, .int (nI (oE I (rT I n at9 goal).toNatClampNeg (nI at9)).toNatClampNeg)), (6, .int (rT I n at9 goal)), (5, .int (nI i)), (0, .ref (G.2.1 1)), (1, .int (nI a0)), (2, .int (nI goal)), (3, .int place)] dX4_roadOfWay_45 (by decide) rfl ?_
            refine g_iinc (v := nI (i + 1)) hC [(5, .int (nI (i + 1))), (4, .int (nI (oE I (rT I n at9 goal).toNatClampNeg (nI at9)).toNatClampNeg)), (6, .int (rT I n at9 goal)), (0, .ref (G.2.1 1)), (1, .int (nI a0)), (2, .int (nI goal)), (3, .int place)] dX4_roadOfWay_47 2 rfl (nI_i1 _) (by decide) rfl ?_
            refine g_goto hC 6 dX4_roadOfWay_50 (by decide) ?_
            refine g_lv [0, 1, 3, 4, 5, 6] (lv2 := [(5, .int (nI (i + 1))), (4, .int (nI (oE I (rT I n at9 goal).toNatClampNeg (nI at9)).toNatClampNeg)), (0, .ref (G.2.1 1)), (1, .int (nI a0)), (2, .int (nI goal)), (3, .int place)]) rfl ?_
            exact ih (i + 1) _ (by omega) (by omega) hq2.1 (by rw [hf, show 12 - i = (12 - (i + 1)) + 1 by omega]; show (if _ then _ else _) = _; rw [hcl, if_neg (fun q => q.elim c_25 c_31), ← hq2.2])
          · have hz : rW I n goal place 12 0 (nI a0) = rT I n at9 goal := by rw [hf, show 12 - i = (12 - (i + 1)) + 1 by omega]; show (if _ then _ else _) = _; rw [hcl, if_pos (Or.inr c_31)]
            refine g_iload hC dX4_roadOfWay_34 0 rfl ?_
            exact g_iret hC hr dX4_roadOfWay_36 (Nat.le_of_ble_eq_true rfl) (Nat.le_of_ble_eq_true rfl) ⟨by rw [hz], rfl, rfl, rfl⟩
  refine g_iload_n hC dX4_roadOfWay_0 rfl 1 rfl ?_
  refine g_istore hC [(4, .int (nI a0)), (0, .ref (G.2.1 1)), (1, .int (nI a0)), (2, .int (nI goal)), (3, .int place)] dX4_roadOfWay_1 (by decide) rfl ?_
  refine g_iconst (v := nI 0) hC dX4_roadOfWay_3 (by decide) ?_
  refine g_istore hC [(5, .int (nI 0)), (4, .int (nI a0)), (0, .ref (G.2.1 1)), (1, .int (nI a0)), (2, .int (nI goal)), (3, .int place)] dX4_roadOfWay_4 (by decide) rfl ?_
  exact lp_6 13 0 a0 (by omega) (by omega) h2 rfl
