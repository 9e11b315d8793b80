set_option maxRecDepth 100000 in
theorem m_X7_bill {l : Launch} {G : wG} (hl : l.stackTraces = false) (hG : wD G) (V : wV) (I : wI) (J : wJ) (nr n ns M : Nat) (hc : cGd nr n ns M V I) (V0 : wV) (I0 : wI) (J0 : wJ) (hx : ∀ p, p < 10 → eqy I ((blG nr ns n V0 I0 J0) p)) (e8 : V 8 = V0 0) (eM : nI M = V0 3) (hh : ∀ p, p < 10 → I 15 p = -1 ∨ vp_in (I 15 p) 6) (hj0 : jE J (blS nr ns n V0 I0 J0 0).2.2.2) : Ctr l yX7_bill cX7_bill 8 (some .long) { frames := 5, cells := 0, slots := 0, locals := 129 } G [.ref (G.2.1 7)] V I J (fun r9 V9 I9 J9 => r9 = some (.long (blS nr ns n V0 I0 J0 10).1) ∧ fv V V9 ∧ V9 7 = nI 0 ∧ gK I I9 ∧ jE J9 (blS nr ns n V0 I0 J0 10).2.2.2 ∧ (∀ o, o < 4 → J9 63 o = (blS nr ns n V0 I0 J0 10).2.2.2 32 o) ∧ jO J J9) (noX) := by
  refine ctr_of hl hG (by decide) (Nat.le_of_ble_eq_true rfl) [(0, .ref (G.2.1 7))] rfl ?_
  intro K hC hKl hRm hr hT
  subst hKl
  have hC : Cx K G RX7 cX7_bill 8 := hC
  have m59 : I 59 = I 15 := hc.2.2.2.2.2.1.2.2.2.2.2.2.2.1
  have lp_94 : ∀ (k9 : Nat) (Va : wV) (Ia : wI) (Ja : wJ) (o : Nat) (hVa : fv V Va) (h7 : Va 7 = nI 0) (hKa : gK I Ia) (hEa : jE Ja (blS nr ns n V0 I0 J0 10).2.2.2) (hOa : jO J Ja) (hga : ∀ q, q < o → Ja 63 q = (blS nr ns n V0 I0 J0 10).2.2.2 32 q) (ho : o ≤ 4) (hk9 : 4 < o + k9), WW K G 0 0 (QM K G { frames := 5, cells := 0, slots := 0, locals := 129 } (fun r9 V9 I9 J9 => r9 = some (.long (blS nr ns n V0 I0 J0 10).1) ∧ fv V V9 ∧ V9 7 = nI 0 ∧ gK I I9 ∧ jE J9 (blS nr ns n V0 I0 J0 10).2.2.2 ∧ (∀ o, o < 4 → J9 63 o = (blS nr ns n V0 I0 J0 10).2.2.2 32 o) ∧ jO J J9) (noX)) Va Ia Ja 94 [(3, .int (nI o)), (1, .long ((blS nr ns n V0 I0 J0 10).1)), (0, .ref (G.2.1 7))] [] := by
    intro k9
    induction k9 with
    | zero =>
      intro Va Ia Ja o hVa h7 hKa hEa hOa hga ho hk9
      omega
    | succ k9 ih =>
      intro Va Ia Ja o hVa h7 hKa hEa hOa hga ho hk9
      refine g_iload_n hC dX7_bill_94 rfl 0 rfl ?_
      refine g_iconst (v := nI 4) hC dX7_bill_95 (by decide) ?_
      refine g_icmp_ge hC 116 dX7_bill_96 (by decide) (fun c_96 => ?_) (fun c_96 => ?_)
      · have d_96 : 4 ≤ o := (nI_leI (by omega) (by omega)).mp c_96
        refine g_lload_n hC dX7_bill_116 rfl 1 rfl ?_
        exact g_lret hC hr dX7_bill_117 (Nat.le_of_ble_eq_true rfl) (Nat.le_of_ble_eq_true rfl) ⟨rfl, hVa, h7, hKa, hEa, fun q hq => hga q (by omega), hOa⟩
      · have d_96 : ¬ 4 ≤ o := fun q => c_96 ((nI_leI (by omega) (by omega)).mpr q)
        refine g_aload_n hC dX7_bill_99 rfl 2 rfl ?_
        refine gf_X7_51 hC dX7_bill_100 ?_
        refine g_iload_n hC dX7_bill_103 rfl 0 rfl ?_
        refine g_aload_n hC dX7_bill_104 rfl 2 rfl ?_
        refine g_iload_n hC dX7_bill_105 rfl 0 rfl ?_
        have hc9 := cGd_x hc hVa hKa
        have hx9 := fun p hp => eqy_k (hx p hp) hKa
        refine g_cVr hC [.int (nI o)] 7 (m_X7_dueTo hl hG Va Ia Ja nr n ns M hc9 o (blG nr ns n V0 I0 J0) hx9 (by omega)) rfl (by decide) rfl rfl rfl tw_914 tw_916 tw_29 tw_38 tw_917 pd_X7_dueTo ⟨rfl, rfl⟩ (by rw [hRm]; exact ⟨Nat.le_of_ble_eq_true rfl, Nat.le_of_ble_eq_true rfl, Nat.le_of_ble_eq_true rfl, Nat.le_of_ble_eq_true rfl⟩) (Nat.le_of_ble_eq_true rfl) dX7_bill_106 (fun r9 V9 I9 J9 hp9 => ?_)
        obtain ⟨rfl, hVb, h7b, hKb, hJb⟩ := hp9
        refine g_at rfl rfl (st2 := [.long ((blS nr ns n V0 I0 J0 10).2.2.2 32 o), .int (nI o), .ref (G.2.1 63)]) (by rw [hVa 8 (by decide) (by decide), e8, eM, ← blS_32 10 o (by omega)] <;> rfl) ?_
        refine n_last hC 63 aa_63 o (show o < 4 by omega) dX7_bill_109 ?_
        refine g_iinc (v := nI (o + 1)) hC [(3, .int (nI (o + 1))), (1, .long ((blS nr ns n V0 I0 J0 10).1)), (0, .ref (G.2.1 7))] dX7_bill_110 0 rfl (nI_i1 _) (by decide) rfl ?_
        refine g_goto hC 94 dX7_bill_113 (by decide) ?_
        exact ih V9 I9 (uJ J9 63 (vp_updL (J9 63) o ((blS nr ns n V0 I0 J0 10).2.2.2 32 o))) (o + 1) (fv_tr hVa hVb) (h7b.trans h7) (gK_tr hKa hKb) (jE_63 (jE_q hEa hJb)) (jO_s (jO_q hOa hJb) (by omega)) (fun q hq => by by_cases z : q = o; rw [z, uJ_s, pk_uLs]; rw [uJ_s, pk_uLn z, hJb 63 (by omega)]; exact hga q (by omega)) (by omega) (by omega)
  have lp_9 : ∀ (k9 : Nat) (Va : wV) (Ia : wI) (Ja : wJ) (p : Nat) (hVa : fv V Va) (h7 : Va 7 = nI 0) (hKa : gK I Ia) (hEa : jE Ja (blS nr ns n V0 I0 J0 p).2.2.2) (hOa : jO J Ja) (hp : p ≤ 10) (hk9 : 10 < p + k9), WW K G 0 0 (QM K G { frames := 5, cells := 0, slots := 0, locals := 129 } (fun r9 V9 I9 J9 => r9 = some (.long (blS nr ns n V0 I0 J0 10).1) ∧ fv V V9 ∧ V9 7 = nI 0 ∧ gK I I9 ∧ jE J9 (blS nr ns n V0 I0 J0 10).2.2.2 ∧ (∀ o, o < 4 → J9 63 o = (blS nr ns n V0 I0 J0 10).2.2.2 32 o) ∧ jO J J9) (noX)) Va Ia Ja 9 [(3, .int (nI p)), (1, .long ((blS nr ns n V0 I0 J0 p).1)), (0, .ref (G.2.1 7))] [] := by
    intro k9
    induction k9 with
    | zero =>
      intro Va Ia Ja p hVa h7 hKa hEa hOa hp hk9
      omega
    | succ k9 ih =>
      intro Va Ia Ja p hVa h7 hKa hEa hOa hp hk9
      refine g_iload_n hC dX7_bill_9 rfl 0 rfl ?_
      refine g_bipush (v := nI 10) hC dX7_bill_10 (by decide) ?_
      refine g_icmp_ge hC 92 dX7_bill_12 (by decide) (fun c_12 => ?_) (fun c_12 => ?_)
      · have d_12 : 10 ≤ p := (nI_leI (by omega) (by omega)).mp c_12
        refine g_iconst (v := nI 0) hC dX7_bill_92 (by decide) ?_
        refine g_istore_n hC [(3, .int (nI 0)), (1, .long ((blS nr ns n V0 I0 J0 p).1)), (0, .ref (G.2.1 7))] dX7_bill_93 rfl (by decide) rfl ?_
        have ep : p = 10 := by omega
        subst ep
        exact lp_94 5 Va Ia Ja 0 hVa h7 hKa hEa hOa (fun q hq => absurd hq (Nat.not_lt_zero _)) (by omega) (by omega)
      · have d_12 : ¬ 10 ≤ p := fun q => c_12 ((nI_leI (by omega) (by omega)).mpr q)
        refine g_aload_n hC dX7_bill_15 rfl 2 rfl ?_
        refine g_iload_n hC dX7_bill_16 rfl 0 rfl ?_
        have hp1 : p < 10 := by omega
        have hc9 := cGd_x hc hVa hKa
        have hx9 := eqy_k (hx p hp1) hKa
        have h15 : (blS nr ns n V0 I0 J0 p).2.2.1 15 p = I 15 p := congrFun (hx p hp1 15 (by omega)) p
        refine g_cVr hC [.int (nI p)] 7 (m_X7_dueOf hl hG Va Ia Ja nr n ns M hc9 p ((blG nr ns n V0 I0 J0) p) hx9 hp1) rfl (by decide) rfl rfl rfl tw_869 tw_871 tw_18 tw_38 tw_872 pd_X7_dueOf ⟨rfl, rfl⟩ (by rw [hRm]; exact ⟨Nat.le_of_ble_eq_true rfl, Nat.le_of_ble_eq_true rfl, Nat.le_of_ble_eq_true rfl, Nat.le_of_ble_eq_true rfl⟩) (Nat.le_of_ble_eq_true rfl) dX7_bill_17 (fun r9 V9 I9 J9 hp9 => ?_)
        obtain ⟨rfl, hVq, hKb, hJb⟩ := hp9
        have hVq := hVq.symm
        subst hVq
        refine g_at rfl rfl (st2 := [.long (blD nr ns n V0 p (blS nr ns n V0 I0 J0 p))]) (by rw [hVa 8 (by decide) (by decide), e8, eM] <;> rfl) ?_
        refine g_lstore hC [(4, .long (blD nr ns n V0 p (blS nr ns n V0 I0 J0 p))), (3, .int (nI p)), (1, .long ((blS nr ns n V0 I0 J0 p).1)), (0, .ref (G.2.1 7))] dX7_bill_20 (by decide) rfl ?_
        refine g_lload hC dX7_bill_22 0 rfl ?_
        refine g_aload_n hC dX7_bill_24 rfl 3 rfl ?_
        refine gf_X7_41 hC dX7_bill_25 ?_
        refine g_iload_n hC dX7_bill_28 rfl 1 rfl ?_
        refine n_lald hC 60 aa_60 p (show p < 10 by omega) dX7_bill_29 ?_
        refine g_eqL (x' := (blS nr ns n V0 I0 J0 p).2.2.2 31 p) (by rw [hJb 60 (by omega), hEa.1]) ?_
        refine g_lsub hC dX7_bill_30 ?_
        refine g_lstore hC [(6, .long ((blD nr ns n V0 p (blS nr ns n V0 I0 J0 p)) - ((blS nr ns n V0 I0 J0 p).2.2.2 31 p))), (4, .long (blD nr ns n V0 p (blS nr ns n V0 I0 J0 p))), (3, .int (nI p)), (1, .long ((blS nr ns n V0 I0 J0 p).1)), (0, .ref (G.2.1 7))] dX7_bill_31 (by decide) rfl ?_
        refine g_aload_n hC dX7_bill_33 rfl 4 rfl ?_
        refine gf_X7_38 hC dX7_bill_34 ?_
        refine g_iload_n hC dX7_bill_37 rfl 2 rfl ?_
        refine n_iald hC 59 aa_59 p (show p < 10 by omega) dX7_bill_38 ?_
        refine g_eqI (x' := I 15 p) (by rw [hKb 59 (by omega), hKa 59 (by omega), m59]) ?_
        refine g_iconst (v := (-1)) hC dX7_bill_39 (by decide) ?_
        refine g_icmp_ne hC 57 dX7_bill_40 (by decide) (fun c_40 => ?_) (fun c_40 => ?_)
        · obtain ⟨hh1, hh2⟩ := vin_tn ((hh p hp1).resolve_left c_40) (by decide)
          refine g_aload_n hC dX7_bill_57 rfl 4 rfl ?_
          refine gf_X7_48 hC dX7_bill_58 ?_
          refine g_aload_n hC dX7_bill_61 rfl 4 rfl ?_
          refine gf_X7_38 hC dX7_bill_62 ?_
          refine g_iload_n hC dX7_bill_65 rfl 2 rfl ?_
          refine n_iald hC 59 aa_59 p (show p < 10 by omega) dX7_bill_66 ?_
          refine g_eqI (x' := nI (tn (I 15 p))) (by rw [hKb 59 (by omega), hKa 59 (by omega), m59]; exact hh2) ?_
          refine g_dup2 hC dX7_bill_67 rfl rfl ?_
          refine n_lald hC 62 aa_62 (tn (I 15 p)) (show tn (I 15 p) < 6 by omega) dX7_bill_68 ?_
          refine g_eqL (x' := (blS nr ns n V0 I0 J0 p).2.2.2 29 (tn (I 15 p))) (by rw [hJb 62 (by omega), hEa.2.2]) ?_
          refine g_lload hC dX7_bill_69 0 rfl ?_
          refine g_lsub hC dX7_bill_71 ?_
          refine n_last hC 62 aa_62 (tn (I 15 p)) (show tn (I 15 p) < 6 by omega) dX7_bill_72 ?_
          refine g_aload_n hC dX7_bill_73 rfl 4 rfl ?_
          refine gf_X7_41 hC dX7_bill_74 ?_
          refine g_iload_n hC dX7_bill_77 rfl 2 rfl ?_
          refine g_lload hC dX7_bill_78 1 rfl ?_
          refine n_last hC 60 aa_60 p (show p < 10 by omega) dX7_bill_80 ?_
          refine g_lload_n hC dX7_bill_81 rfl 3 rfl ?_
          refine g_lload hC dX7_bill_82 0 rfl ?_
          refine g_ladd hC dX7_bill_84 ?_
          refine g_lstore_n hC [(1, .long (((blS nr ns n V0 I0 J0 p).1) + ((blD nr ns n V0 p (blS nr ns n V0 I0 J0 p)) - ((blS nr ns n V0 I0 J0 p).2.2.2 31 p)))), (6, .long ((blD nr ns n V0 p (blS nr ns n V0 I0 J0 p)) - ((blS nr ns n V0 I0 J0 p).2.2.2 31 p))), (4, .long (blD nr ns n V0 p (blS nr ns n V0 I0 J0 p))), (3, .int (nI p)), (0, .ref (G.2.1 7))] dX7_bill_85 rfl (by decide) rfl ?_
          refine g_iinc (v := nI (p + 1)) hC [(3, .int (nI (p + 1))), (1, .long (((blS nr ns n V0 I0 J0 p).1) + ((blD nr ns n V0 p (blS nr ns n V0 I0 J0 p)) - ((blS nr ns n V0 I0 J0 p).2.2.2 31 p)))), (6, .long ((blD nr ns n V0 p (blS nr ns n V0 I0 J0 p)) - ((blS nr ns n V0 I0 J0 p).2.2.2 31 p))), (4, .long (blD nr ns n V0 p (blS nr ns n V0 I0 J0 p))), (0, .ref (G.2.1 7))] dX7_bill_86 3 rfl (nI_i1 _) (by decide) rfl ?_
          refine g_goto hC 9 dX7_bill_89 (by decide) ?_
          refine g_lv [0, 1, 4] (lv2 := [(3, .int (nI (p + 1))), (1, .long (((blS nr ns n V0 I0 J0 p).1) + ((blD nr ns n V0 p (blS nr ns n V0 I0 J0 p)) - ((blS nr ns n V0 I0 J0 p).2.2.2 31 p)))), (0, .ref (G.2.1 7))]) rfl ?_
          exact ih (upd Va 14 (nI (fj nr ns p ((blG nr ns n V0 I0 J0) p) n).1)) I9 (uJ (uJ J9 62 (vp_updL (J9 62) (tn (I 15 p)) (((blS nr ns n V0 I0 J0 p).2.2.2 29 (tn (I 15 p))) - ((blD nr ns n V0 p (blS nr ns n V0 I0 J0 p)) - ((blS nr ns n V0 I0 J0 p).2.2.2 31 p))))) 60 (vp_updL ((uJ J9 62 (vp_updL (J9 62) (tn (I 15 p)) (((blS nr ns n V0 I0 J0 p).2.2.2 29 (tn (I 15 p))) - ((blD nr ns n V0 p (blS nr ns n V0 I0 J0 p)) - ((blS nr ns n V0 I0 J0 p).2.2.2 31 p))))) 60) p (blD nr ns n V0 p (blS nr ns n V0 I0 J0 p)))) (p + 1) (fv_tr hVa (fv_14 _ _)) ((pk_un (by decide)).trans h7) (gK_tr hKa hKb) (jE_y (jE_q hEa hJb) h15 c_40) (jO_s (jO_s (jO_q hOa hJb) (by omega)) (by omega)) (by omega) (by omega)
        · refine g_aload_n hC dX7_bill_43 rfl 4 rfl ?_
          refine gf_X7_45 hC dX7_bill_44 ?_
          refine g_iload_n hC dX7_bill_47 rfl 2 rfl ?_
          refine g_dup2 hC dX7_bill_48 rfl rfl ?_
          refine n_lald hC 61 aa_61 p (show p < 10 by omega) dX7_bill_49 ?_
          refine g_eqL (x' := (blS nr ns n V0 I0 J0 p).2.2.2 30 p) (by rw [hJb 61 (by omega), hEa.2.1]) ?_
          refine g_lload hC dX7_bill_50 0 rfl ?_
          refine g_lsub hC dX7_bill_52 ?_
          refine n_last hC 61 aa_61 p (show p < 10 by omega) dX7_bill_53 ?_
          refine g_goto hC 73 dX7_bill_54 (by decide) ?_
          refine g_aload_n hC dX7_bill_73 rfl 4 rfl ?_
          refine gf_X7_41 hC dX7_bill_74 ?_
          refine g_iload_n hC dX7_bill_77 rfl 2 rfl ?_
          refine g_lload hC dX7_bill_78 1 rfl ?_
          refine n_last hC 60 aa_60 p (show p < 10 by omega) dX7_bill_80 ?_
          refine g_lload_n hC dX7_bill_81 rfl 3 rfl ?_
          refine g_lload hC dX7_bill_82 0 rfl ?_
          refine g_ladd hC dX7_bill_84 ?_
          refine g_lstore_n hC [(1, .long (((blS nr ns n V0 I0 J0 p).1) + ((blD nr ns n V0 p (blS nr ns n V0 I0 J0 p)) - ((blS nr ns n V0 I0 J0 p).2.2.2 31 p)))), (6, .long ((blD nr ns n V0 p (blS nr ns n V0 I0 J0 p)) - ((blS nr ns n V0 I0 J0 p).2.2.2 31 p))), (4, .long (blD nr ns n V0 p (blS nr ns n V0 I0 J0 p))), (3, .int (nI p)), (0, .ref (G.2.1 7))] dX7_bill_85 rfl (by decide) rfl ?_
          refine g_iinc (v := nI (p + 1)) hC [(3, .int (nI (p + 1))), (1, .long (((blS nr ns n V0 I0 J0 p).1) + ((blD nr ns n V0 p (blS nr ns n V0 I0 J0 p)) - ((blS nr ns n V0 I0 J0 p).2.2.2 31 p)))), (6, .long ((blD nr ns n V0 p (blS nr ns n V0 I0 J0 p)) - ((blS nr ns n V0 I0 J0 p).2.2.2 31 p))), (4, .long (blD nr ns n V0 p (blS nr ns n V0 I0 J0 p))), (0, .ref (G.2.1 7))] dX7_bill_86 3 rfl (nI_i1 _) (by decide) rfl ?_
          refine g_goto hC 9 dX7_bill_89 (by decide) ?_
          refine g_lv [0, 1, 4] (lv2 := [(3, .int (nI (p + 1))), (1, .long (((blS nr ns n V0 I0 J0 p).1) + ((blD nr ns n V0 p (blS nr ns n V0 I0 J0 p)) - ((blS nr ns n V0 I0 J0 p).2.2.2 31 p)))), (0, .ref (G.2.1 7))]) rfl ?_
          exact ih (upd Va 14 (nI (fj nr ns p ((blG nr ns n V0 I0 J0) p) n).1)) I9 (uJ (uJ J9 61 (vp_updL (J9 61) p (((blS nr ns n V0 I0 J0 p).2.2.2 30 p) - ((blD nr ns n V0 p (blS nr ns n V0 I0 J0 p)) - ((blS nr ns n V0 I0 J0 p).2.2.2 31 p))))) 60 (vp_updL ((uJ J9 61 (vp_updL (J9 61) p (((blS nr ns n V0 I0 J0 p).2.2.2 30 p) - ((blD nr ns n V0 p (blS nr ns n V0 I0 J0 p)) - ((blS nr ns n V0 I0 J0 p).2.2.2 31 p))))) 60) p (blD nr ns n V0 p (blS nr ns n V0 I0 J0 p)))) (p + 1) (fv_tr hVa (fv_14 _ _)) ((pk_un (by decide)).trans h7) (gK_tr hKa hKb) (jE_n (jE_q hEa hJb) h15 c_40) (jO_s (jO_s (jO_q hOa hJb) (by omega)) (by omega)) (by omega) (by omega)
  refine g_aload_n hC dX7_bill_0 rfl 0 rfl ?_
  refine g_iconst (v := nI 0) hC dX7_bill_1 (by decide) ?_
  refine gp_X7_103 hC dX7_bill_2 ?_
  refine g_lconst (v := 0) hC dX7_bill_5 (by decide) ?_
  refine g_lstore_n hC [(1, .long 0), (0, .ref (G.2.1 7))] dX7_bill_6 rfl (by decide) rfl ?_
  refine g_iconst (v := nI 0) hC dX7_bill_7 (by decide) ?_
  refine g_istore_n hC [(3, .int (nI 0)), (1, .long 0), (0, .ref (G.2.1 7))] dX7_bill_8 rfl (by decide) rfl ?_
  exact lp_9 11 (upd V 7 (nI 0)) I J 0 (fv_7 _ _) pk_us (gK_rf I) hj0 (fun _ _ => rfl) (by omega) (by omega)
