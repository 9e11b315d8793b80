/-! what the model's questions start from, and what they leave -/
def cGd (nr n ns M : Nat) (V : wV) (I : wI) : Prop := V 10 = nI nr ∧ V 11 = nI M ∧ V 12 = nI ns ∧ V 13 = nI n ∧ M ≤ 100000 ∧ mI I ∧ (0 < n → mF I) ∧ dK I nr ∧ wfC I nr n ns ∧ wT I nr ∧ wS I n
def fv (V V9 : wV) : Prop := ∀ k, k ≠ 7 → k ≠ 14 → V9 k = V k
def fq (J J9 : wJ) : Prop := ∀ a, a < 77 ∨ 79 < a → J9 a = J a
theorem fv_rf (V : wV) : fv V V := fun _ _ _ => rfl
theorem fv_tr {V V2 V3 : wV} (h : fv V V2) (h2 : fv V2 V3) : fv V V3 := fun k a b => (h2 k a b).trans (h k a b)
theorem fv_14 (V : wV) (x : Int32) : fv V (upd V 14 x) := fun _ _ b => pk_un b
theorem fv_7 (V : wV) (x : Int32) : fv V (upd V 7 x) := fun _ a _ => pk_un a
theorem fq_rf (J : wJ) : fq J J := fun _ _ => rfl
theorem fq_tr {J J2 J3 : wJ} (h : fq J J2) (h2 : fq J2 J3) : fq J J3 := fun a ha => (h2 a ha).trans (h a ha)
theorem gK_rf (I : wI) : gK I I := fun _ _ => rfl
theorem gK_tr {I I2 I3 : wI} (h : gK I I2) (h2 : gK I2 I3) : gK I I3 := fun a ha => (h2 a ha).trans (h a ha)
theorem wS_x {I I2 : wI} {n : Nat} (h : wS I n) (e21 : I2 21 = I 21) (e23 : I2 23 = I 23) : wS I2 n := by
  unfold wS lexl
  rw [e21, e23]
  exact h
theorem cGd_x {nr n ns M : Nat} {V V9 : wV} {I I9 : wI} (h : cGd nr n ns M V I) (hv : fv V V9) (hk : gK I I9) : cGd nr n ns M V9 I9 := by
  obtain ⟨h1, h2, h3, h4, h5, h6, h7, h8, h9, h10, h11⟩ := h
  exact ⟨(hv 10 (by decide) (by decide)).trans h1, (hv 11 (by decide) (by decide)).trans h2, (hv 12 (by decide) (by decide)).trans h3, (hv 13 (by decide) (by decide)).trans h4, h5, mI_x h6 (fun a ha => hk a (by omega)), (fun z => mF_x (h7 z) (fun a ha => hk a (by omega))), dK_x h8 (fun a ha => hk a (by omega)), wfC_y h9 (fun a ha => hk a (by omega)), wT_x h10 (fun a ha => hk a (by omega)), wS_x h11 (hk 21 (by omega)) (hk 23 (by omega))⟩
theorem eqy_k {I I9 G0 : wI} (h : eqy I G0) (hk : gK I I9) : eqy I9 G0 := fun a ha => (h a ha).trans (hk a (by omega)).symm
theorem fj_n {nr n ns M plate : Nat} {V : wV} {I G0 : wI} (h : cGd nr n ns M V I) (hx : eqy I G0) : (fj nr ns plate G0 n).1 ≤ 100 := by
  obtain ⟨-, -, -, -, -, -, -, -, hw, -, -⟩ := h
  have h1 := (fj_ok (plate := plate) (wfC_y hw hx) n (Nat.le_refl _)).1
  have h2 := hw.2.2.2.1
  omega
/-- the shares of one owner, plate by plate, over a row of states -/
def dS (nr ns n o : Nat) (Gp : Nat → wI) (now m : Int32) : Nat → Int64
  | 0 => 0
  | p + 1 => dS nr ns n o Gp now m p + sS (fj nr ns p (Gp p) n).2.2 o now m (fj nr ns p (Gp p) n).1
theorem gF_x {n plate M : Nat} {I I0 I9 : wI} {S : fS} {J9 : wJ} (h : gF n plate I M S I9 J9) (e1 : I0 20 = I 20) (e2 : I0 22 = I 22) : gF n plate I0 M S I9 J9 := by
  unfold gF
  rw [e1, e2]
  exact h
theorem i3264 (x : Int32) : x.toInt64.toInt32 = x := by
  apply Int32.toInt_inj.mp
  rw [Int64.toInt_toInt32, Int32.toInt_toInt64]
  have h1 := Int32.le_toInt x
  have h2 := Int32.toInt_lt x
  rw [Int.bmod_def]
  split <;> omega
/-- a bill's family of states -/
abbrev blG (nr ns n : Nat) (V : wV) (I : wI) (J : wJ) : Nat → wI := fun p => (blS nr ns n V I J p).2.2.1
theorem blJ_n {nr ns n p : Nat} {V : wV} {S : bS} {a : Nat} (ha : a ≠ 32) : ∀ k, blJ nr ns n V p S k a = chJ S.2.2.2 p (S.2.2.1 15 p) (blD nr ns n V p S) a
  | 0 => rfl
  | k + 1 => (show blJ nr ns n V p S (k + 1) a = blJ nr ns n V p S k a from uJ_n ha).trans (blJ_n ha k)
theorem chJ_31 (J : wJ) (p : Nat) (hv : Int32) (due : Int64) : chJ J p hv due 31 = vp_updL (J 31) p due := by
  unfold chJ
  split <;> rfl
theorem chJ_30 (J : wJ) (p : Nat) (hv : Int32) (due : Int64) : chJ J p hv due 30 = if hv = -1 then vp_updL (J 30) p (J 30 p - (due - J 31 p)) else J 30 := by
  unfold chJ
  split <;> rfl
theorem chJ_29 (J : wJ) (p : Nat) (hv : Int32) (due : Int64) : chJ J p hv due 29 = if hv = -1 then J 29 else vp_updL (J 29) (tn hv) (J 29 (tn hv) - (due - J 31 p)) := by
  unfold chJ
  split <;> rfl
theorem chJ_32 (J : wJ) (p : Nat) (hv : Int32) (due : Int64) : chJ J p hv due 32 = J 32 := by
  unfold chJ
  split <;> rfl
theorem blJ_32 {nr ns n p : Nat} {V : wV} {S : bS} : ∀ k o, blJ nr ns n V p S k 32 o = if o < k then S.2.2.2 32 o + sS (blF nr ns n p S).2.2 o (V 0) (V 3) (blF nr ns n p S).1 else S.2.2.2 32 o
  | 0, o => by
    rw [if_neg (Nat.not_lt_zero _)]
    exact congrFun (chJ_32 _ _ _ _) o
  | k + 1, o => by
    show (uJ (blJ nr ns n V p S k) 32 (vp_updL (blJ nr ns n V p S k 32) k (blJ nr ns n V p S k 32 k + sS (blF nr ns n p S).2.2 k (V 0) (V 3) (blF nr ns n p S).1))) 32 o = _
    rw [uJ_s]
    by_cases z : o = k
    · subst z
      rw [pk_uLs, blJ_32 o o, if_neg (by omega), if_pos (by omega)]
    · rw [pk_uLn z, blJ_32 k o]
      by_cases y : o < k
      · rw [if_pos y, if_pos (by omega)]
      · rw [if_neg y, if_neg (by omega)]
theorem blS_32 {nr ns n : Nat} {V : wV} {I : wI} {J : wJ} : ∀ p o, o < 4 → (blS nr ns n V I J p).2.2.2 32 o = dS nr ns n o (blG nr ns n V I J) (V 0) (V 3) p
  | 0, o, ho => by
    show (sJ (sJ (sJ (sJ J 32 0 0) 32 1 0) 32 2 0) 32 3 0) 32 o = 0
    rcases (show o = 0 ∨ o = 1 ∨ o = 2 ∨ o = 3 by omega) with rfl | rfl | rfl | rfl <;> rfl
  | p + 1, o, ho => by
    show blJ nr ns n V p (blS nr ns n V I J p) 4 32 o = _
    rw [blJ_32, if_pos ho, blS_32 p o ho]
    rfl
theorem bl_31 {nr ns n : Nat} {V : wV} {I : wI} {J : wJ} (p : Nat) : (blS nr ns n V I J (p + 1)).2.2.2 31 = vp_updL ((blS nr ns n V I J p).2.2.2 31) p (blD nr ns n V p (blS nr ns n V I J p)) := (blJ_n (by decide) 4).trans (chJ_31 _ _ _ _)
theorem bl_30 {nr ns n : Nat} {V : wV} {I : wI} {J : wJ} (p : Nat) : (blS nr ns n V I J (p + 1)).2.2.2 30 = if (blS nr ns n V I J p).2.2.1 15 p = -1 then vp_updL ((blS nr ns n V I J p).2.2.2 30) p ((blS nr ns n V I J p).2.2.2 30 p - (blD nr ns n V p (blS nr ns n V I J p) - (blS nr ns n V I J p).2.2.2 31 p)) else (blS nr ns n V I J p).2.2.2 30 := (blJ_n (by decide) 4).trans (chJ_30 _ _ _ _)
theorem bl_29 {nr ns n : Nat} {V : wV} {I : wI} {J : wJ} (p : Nat) : (blS nr ns n V I J (p + 1)).2.2.2 29 = if (blS nr ns n V I J p).2.2.1 15 p = -1 then (blS nr ns n V I J p).2.2.2 29 else vp_updL ((blS nr ns n V I J p).2.2.2 29) (tn ((blS nr ns n V I J p).2.2.1 15 p)) ((blS nr ns n V I J p).2.2.2 29 (tn ((blS nr ns n V I J p).2.2.1 15 p)) - (blD nr ns n V p (blS nr ns n V I J p) - (blS nr ns n V I J p).2.2.2 31 p)) := (blJ_n (by decide) 4).trans (chJ_29 _ _ _ _)
/-- the model's money beside the class's -/
def jE (Ja Jc : wJ) : Prop := Ja 60 = Jc 31 ∧ Ja 61 = Jc 30 ∧ Ja 62 = Jc 29
def jO (J J9 : wJ) : Prop := ∀ a, a < 60 ∨ (63 < a ∧ a < 77) ∨ 79 < a → J9 a = J a
theorem jE_n {nr ns n p : Nat} {V0 : wV} {I I0 : wI} {J0 J9 : wJ} (h : jE J9 (blS nr ns n V0 I0 J0 p).2.2.2) (h15 : (blS nr ns n V0 I0 J0 p).2.2.1 15 p = I 15 p) (hv : I 15 p = -1) : jE (uJ (uJ J9 61 (vp_updL (J9 61) p ((blS nr ns n V0 I0 J0 p).2.2.2 30 p - (blD nr ns n V0 p (blS nr ns n V0 I0 J0 p) - (blS nr ns n V0 I0 J0 p).2.2.2 31 p)))) 60 (vp_updL ((uJ J9 61 (vp_updL (J9 61) p ((blS nr ns n V0 I0 J0 p).2.2.2 30 p - (blD nr ns n V0 p (blS nr ns n V0 I0 J0 p) - (blS nr ns n V0 I0 J0 p).2.2.2 31 p)))) 60) p (blD nr ns n V0 p (blS nr ns n V0 I0 J0 p)))) (blS nr ns n V0 I0 J0 (p + 1)).2.2.2 := by
  obtain ⟨h1, h2, h3⟩ := h
  refine ⟨?_, ?_, ?_⟩
  · rw [uJ_s, uJ_n (by decide), bl_31, h1]
  · rw [uJ_n (by decide), uJ_s, bl_30, h15, if_pos hv, h2]
  · rw [uJ_n (by decide), uJ_n (by decide), bl_29, h15, if_pos hv, h3]
theorem jE_y {nr ns n p : Nat} {V0 : wV} {I I0 : wI} {J0 J9 : wJ} (h : jE J9 (blS nr ns n V0 I0 J0 p).2.2.2) (h15 : (blS nr ns n V0 I0 J0 p).2.2.1 15 p = I 15 p) (hv : ¬ I 15 p = -1) : jE (uJ (uJ J9 62 (vp_updL (J9 62) (tn (I 15 p)) ((blS nr ns n V0 I0 J0 p).2.2.2 29 (tn (I 15 p)) - (blD nr ns n V0 p (blS nr ns n V0 I0 J0 p) - (blS nr ns n V0 I0 J0 p).2.2.2 31 p)))) 60 (vp_updL ((uJ J9 62 (vp_updL (J9 62) (tn (I 15 p)) ((blS nr ns n V0 I0 J0 p).2.2.2 29 (tn (I 15 p)) - (blD nr ns n V0 p (blS nr ns n V0 I0 J0 p) - (blS nr ns n V0 I0 J0 p).2.2.2 31 p)))) 60) p (blD nr ns n V0 p (blS nr ns n V0 I0 J0 p)))) (blS nr ns n V0 I0 J0 (p + 1)).2.2.2 := by
  obtain ⟨h1, h2, h3⟩ := h
  refine ⟨?_, ?_, ?_⟩
  · rw [uJ_s, uJ_n (by decide), bl_31, h1]
  · rw [uJ_n (by decide), uJ_n (by decide), bl_30, h15, if_neg hv, h2]
  · rw [uJ_n (by decide), uJ_s, bl_29, h15, if_neg hv, h3]
theorem jO_q {J J9 J8 : wJ} (h : jO J J9) (h2 : fq J9 J8) : jO J J8 := fun a ha => (h2 a (by omega)).trans (h a ha)
theorem jO_s {J J9 : wJ} {a : Nat} {f : Nat → Int64} (h : jO J J9) (ha : 60 ≤ a ∧ a ≤ 63) : jO J (uJ J9 a f) := fun b hb => (uJ_n (by omega)).trans (h b hb)
theorem jE_q {J9 J8 Jc : wJ} (h : jE J9 Jc) (h2 : fq J9 J8) : jE J8 Jc := by
  unfold jE
  rw [h2 60 (by omega), h2 61 (by omega), h2 62 (by omega)]
  exact h
theorem jE_63 {J9 Jc : wJ} {f : Nat → Int64} (h : jE J9 Jc) : jE (uJ J9 63 f) Jc := h
/-- a question of the model -/
def qQ (tc : Nat) (rz : Option Value) (V : wV) (I : wI) (J : wJ) (P : Option Value → Prop) : wPo := fun r V9 I9 J9 => V9 7 = nI tc ∧ fv V V9 ∧ gK I I9 ∧ fq J J9 ∧ ((tc = 0 ∧ P r) ∨ (0 < tc ∧ r = rz))
theorem qQ_x {tc k : Nat} {rz : Option Value} {V V9 : wV} {I I9 : wI} {J J9 : wJ} {P : Option Value → Prop} (h : tc = k) (hk : 0 < k) (h7 : V9 7 = nI k) (hv : fv V V9) (hK : gK I I9) (hJ : fq J J9) : qQ tc rz V I J P rz V9 I9 J9 := by
  subst h
  exact ⟨h7, hv, hK, hJ, Or.inr ⟨hk, rfl⟩⟩
theorem qQ_o {tc : Nat} {rz r : Option Value} {V V9 : wV} {I I9 : wI} {J J9 : wJ} {P : Option Value → Prop} (h : tc = 0) (h7 : V9 7 = nI 0) (hv : fv V V9) (hK : gK I I9) (hJ : fq J J9) (hP : P r) : qQ tc rz V I J P r V9 I9 J9 := by
  rw [← h] at h7
  exact ⟨h7, hv, hK, hJ, Or.inl ⟨h, hP⟩⟩
