/-! journeys as the class finds them -/
abbrev tn (x : Int32) : Nat := x.toNatClampNeg
/-- I2 is I but for the scratch arrays of the journeys -/
def eqx (I I2 : wI) : Prop := ∀ a, (a < 24 ∨ (28 < a ∧ a < 47) ∨ 50 < a) → I2 a = I a
theorem eqx_rf (I : wI) : eqx I I := fun _ _ => rfl
theorem eqx_tr {I I2 I3 : wI} (h : eqx I I2) (h2 : eqx I2 I3) : eqx I I3 := fun a ha => (h2 a ha).trans (h a ha)
theorem eqx_u (I : wI) {k : Nat} {f : Nat → Int32} (h : (24 ≤ k ∧ k ≤ 28) ∨ (47 ≤ k ∧ k ≤ 50)) : eqx I (uI I k f) := fun a ha => uI_n (by omega)
theorem eqx_bg (I : wI) (c r : Nat) (m : Int32) : eqx I (bgI I c r m) := by
  unfold bgI
  exact eqx_tr (eqx_tr (eqx_tr (eqx_tr (eqx_tr (eqx_tr (eqx_tr (eqx_tr (eqx_u I (by omega)) (eqx_u _ (by omega))) (eqx_u _ (by omega))) (eqx_u _ (by omega))) (eqx_u _ (by omega))) (eqx_u _ (by omega))) (eqx_u _ (by omega))) (eqx_u _ (by omega))) (eqx_u _ (by omega))
theorem eqx_go (I : wI) (r j : Nat) (m : Int32) : eqx I (goI I r j m) := by
  unfold goI
  exact eqx_tr (eqx_tr (eqx_tr (eqx_u I (by omega)) (eqx_u _ (by omega))) (eqx_u _ (by omega))) (eqx_u _ (by omega))
theorem eqx_pd (I : wI) (r j : Nat) : eqx I (pdI I r j) := by
  unfold pdI
  exact eqx_tr (eqx_u I (by omega)) (eqx_u _ (by omega))
/-- what the class's data keep to: nr roads, n readings, ns spans -/
def wfC (I : wI) (nr n ns : Nat) : Prop := wfR I nr ∧ (∀ r, r < nr → vp_in (I 11 r) 4) ∧ ns ≤ 20 ∧ n ≤ 100 ∧ wfO I n ∧ (∀ r, r < n → vp_in (I 19 r) 12 ∧ vp_in (I 20 r) 10) ∧ (∀ p, p < 10 → vp_in (I 14 p) 3)
theorem wfC_x {I I2 : wI} {nr n ns : Nat} (h : wfC I nr n ns) (e : eqx I I2) : wfC I2 nr n ns := by
  obtain ⟨h1, h2, h3, h4, h5, h6, h7⟩ := h
  refine ⟨⟨h1.1, fun r hr => by rw [e 8 (by omega), e 9 (by omega)]; exact h1.2 r hr⟩, fun r hr => by rw [e 11 (by omega)]; exact h2 r hr, h3, h4, fun p hp => by rw [e 23 (by omega)]; exact h5 p hp, fun r hr => by rw [e 19 (by omega), e 20 (by omega)]; exact h6 r hr, fun p hp => by rw [e 14 (by omega)]; exact h7 p hp⟩
theorem vin_tn {x : Int32} {n : Nat} (h : vp_in x n) (hn : n < 2 ^ 31) : tn x < n ∧ x = nI (tn x) := by
  obtain ⟨j, hj, e⟩ := vin_nI h hn
  subst e
  rw [show tn (nI j) = j from nI_clamp (by omega)]
  exact ⟨hj, rfl⟩
theorem ord_tn {I : wI} {n p : Nat} (h : wfO I n) (hp : p < n) (hn : n ≤ 100) : tn (I 23 p) < n ∧ I 23 p = nI (tn (I 23 p)) := by
  obtain ⟨r, hr, e⟩ := h p hp
  rw [e, show tn (nI r) = r from nI_clamp (by omega)]
  exact ⟨hr, rfl⟩
def isD (I : wI) (r a : Nat) : Bool := decide (I 19 r = I 19 a) && decide (¬ nI 5 < I 21 r - I 21 a)
def gO (I : wI) (a r : Nat) : Bool := decide (I (35 + tn (I 19 a)) (tn (I 19 r)) < nI 1000000) && (decide (¬ I 21 r - I 21 a < I (35 + tn (I 19 a)) (tn (I 19 r))) && decide (¬ nI 3 * I (35 + tn (I 19 a)) (tn (I 19 r)) + nI 10 < I 21 r - I 21 a))
theorem gO_t {I : wI} {a r : Nat} (h1 : I (35 + tn (I 19 a)) (tn (I 19 r)) < nI 1000000) (h2 : ¬ I 21 r - I 21 a < I (35 + tn (I 19 a)) (tn (I 19 r))) (h3 : ¬ nI 3 * I (35 + tn (I 19 a)) (tn (I 19 r)) + nI 10 < I 21 r - I 21 a) : gO I a r = true := by
  unfold gO
  rw [decide_eq_true h1, decide_eq_true h2, decide_eq_true h3]; rfl
theorem gO_f1 {I : wI} {a r : Nat} (h : ¬ I (35 + tn (I 19 a)) (tn (I 19 r)) < nI 1000000) : ¬ gO I a r = true := by
  intro q
  simp only [gO, Bool.and_eq_true, decide_eq_true_eq] at q
  exact h q.1
theorem gO_f2 {I : wI} {a r : Nat} (h : I 21 r - I 21 a < I (35 + tn (I 19 a)) (tn (I 19 r))) : ¬ gO I a r = true := by
  intro q
  simp only [gO, Bool.and_eq_true, decide_eq_true_eq] at q
  exact q.2.1 h
theorem gO_f3 {I : wI} {a r : Nat} (h : nI 3 * I (35 + tn (I 19 a)) (tn (I 19 r)) + nI 10 < I 21 r - I 21 a) : ¬ gO I a r = true := by
  intro q
  simp only [gO, Bool.and_eq_true, decide_eq_true_eq] at q
  exact q.2.2 h
def pwL (n kind : Nat) (m : Int32) (goal j : Nat) : Nat → Int32 → wI → wI
  | 0, _, I => I
  | k + 1, at9, I => if rT I n (tn at9) goal = -1 then I else pwL n kind m goal j k (oE I (tn (rT I n (tn at9) goal)) at9) (sI I (47 + tn (I 11 (tn (rT I n (tn at9) goal)))) j (I (47 + tn (I 11 (tn (rT I n (tn at9) goal)))) j + cf I (I 10 (tn (rT I n (tn at9) goal))) kind m))
def pw (nr ns : Nat) (I : wI) (a r j : Nat) : wI := if an (ec I (I 20 a) (I 21 a)) ns = true then I else pwL nr (tn (I 14 (tn (I 20 a)))) (I 21 a) (tn (I 19 r)) j 12 (I 19 a) I
/-- how many journeys there are, the reading that counts and is ahead, the arrays -/
abbrev fS : Type := Nat × Option Nat × wI
def ahv : Option Nat → Int32
  | none => -1
  | some a => nI a
def plc (nr ns : Nat) (c : Nat) (ah : Option Nat) (I : wI) (r : Nat) : fS := match ah with
  | none => (c + 1, some r, bgI I c r (I 21 r))
  | some a => if isD I r a = true then (c, some a, pdI I r (c - 1)) else if gO I a r = true then (c, some r, pw nr ns (goI I r (c - 1) (I 21 r)) a r (c - 1)) else (c + 1, some r, bgI I c r (I 21 r))
def stp (nr ns plate : Nat) (S : fS) (p : Nat) : fS := if S.2.2 20 (tn (S.2.2 23 p)) = nI plate ∧ S.2.2 22 (tn (S.2.2 23 p)) = 0 then plc nr ns S.1 S.2.1 S.2.2 (tn (S.2.2 23 p)) else S
def fj (nr ns plate : Nat) (I : wI) : Nat → fS
  | 0 => (0, none, I)
  | p + 1 => stp nr ns plate (fj nr ns plate I p) p
theorem own_lt {I : wI} {nr n ns r : Nat} (h : wfC I nr n ns) (hr : r < nr) : tn (I 11 r) < 4 ∧ I 11 r = nI (tn (I 11 r)) := vin_tn (h.2.1 r hr) (by decide)
theorem eqx_pwL {nr n ns kind : Nat} {m : Int32} {goal j : Nat} : ∀ (k : Nat) (at9 : Int32) (I : wI), wfC I nr n ns → eqx I (pwL nr kind m goal j k at9 I)
  | 0, _, I, _ => eqx_rf I
  | k + 1, at9, I, h => by
    unfold pwL
    by_cases q : rT I nr (tn at9) goal = -1
    · rw [if_pos q]; exact eqx_rf I
    · rw [if_neg q]
      have h1 : tn (rT I nr (tn at9) goal) < nr := (rT_nI h.1 q).1
      have h2 := (own_lt h h1).1
      have h3 : eqx I (sI I (47 + tn (I 11 (tn (rT I nr (tn at9) goal)))) j (I (47 + tn (I 11 (tn (rT I nr (tn at9) goal)))) j + cf I (I 10 (tn (rT I nr (tn at9) goal))) kind m)) := eqx_u I (by omega)
      exact eqx_tr h3 (eqx_pwL k _ _ (wfC_x h h3))
theorem eqx_pw {nr n ns : Nat} {I : wI} {a r j : Nat} (h : wfC I nr n ns) : eqx I (pw nr ns I a r j) := by
  unfold pw
  by_cases q : an (ec I (I 20 a) (I 21 a)) ns = true
  · rw [if_pos q]; exact eqx_rf I
  · rw [if_neg q]; exact eqx_pwL 12 _ I h
/-- the journeys' numbers are not touched by what is paid -/
theorem pwL_27 {nr n ns kind : Nat} {m : Int32} {goal j b : Nat} (hb : b < 47) : ∀ (k : Nat) (at9 : Int32) (I : wI), wfC I nr n ns → pwL nr kind m goal j k at9 I b = I b
  | 0, _, I, _ => rfl
  | k + 1, at9, I, h => by
    unfold pwL
    by_cases q : rT I nr (tn at9) goal = -1
    · rw [if_pos q]
    · rw [if_neg q]
      have h1 : tn (rT I nr (tn at9) goal) < nr := (rT_nI h.1 q).1
      have h2 := (own_lt h h1).1
      have h3 : eqx I (sI I (47 + tn (I 11 (tn (rT I nr (tn at9) goal)))) j (I (47 + tn (I 11 (tn (rT I nr (tn at9) goal)))) j + cf I (I 10 (tn (rT I nr (tn at9) goal))) kind m)) := eqx_u I (by omega)
      rw [pwL_27 hb k _ _ (wfC_x h h3)]
      exact uI_n (by omega)
theorem pw_27 {nr n ns : Nat} {I : wI} {a r j b : Nat} (hb : b < 47) (h : wfC I nr n ns) : pw nr ns I a r j b = I b := by
  unfold pw
  by_cases q : an (ec I (I 20 a) (I 21 a)) ns = true
  · rw [if_pos q]
  · rw [if_neg q]; exact pwL_27 hb 12 _ I h
/-- the state of the fold is sound -/
def fok (I : wI) (n : Nat) (p : Nat) (S : fS) : Prop := S.1 ≤ p ∧ eqx I S.2.2 ∧ ∀ a, S.2.1 = some a → a < n ∧ 1 ≤ S.1 ∧ S.2.2 27 a = nI (S.1 - 1)
theorem plc_ok {nr n ns : Nat} {I I2 : wI} {p c r : Nat} {ah : Option Nat} (hw : wfC I nr n ns) (h : fok I n p (c, ah, I2)) (hr : r < n) : fok I n (p + 1) (plc nr ns c ah I2 r) := by
  obtain ⟨h1, h2, h3⟩ := h
  have hw2 := wfC_x hw h2
  have bg : fok I n (p + 1) (c + 1, some r, bgI I2 c r (I2 21 r)) := ⟨Nat.succ_le_succ h1, eqx_tr h2 (eqx_bg I2 c r _), fun a ha => by
    cases ha
    refine ⟨hr, Nat.le_add_left 1 c, ?_⟩
    show bgI I2 c r (I2 21 r) 27 r = nI (c + 1 - 1)
    unfold bgI sI
    rw [uI_n (by decide), uI_s, pk_us]
    rfl⟩
  unfold plc
  cases ah with
  | none => exact bg
  | some a =>
    obtain ⟨a1, a2, a3⟩ := h3 a rfl
    dsimp only at a2 a3 ⊢
    by_cases q1 : isD I2 r a = true
    · rw [if_pos q1]
      refine ⟨Nat.le_succ_of_le h1, eqx_tr h2 (eqx_pd I2 r _), fun b hb => ?_⟩
      cases hb
      refine ⟨a1, a2, ?_⟩
      show pdI I2 r (c - 1) 27 a = nI (c - 1)
      unfold pdI sI
      rw [uI_n (by decide), uI_s]
      unfold upd
      by_cases e : a = r
      · rw [if_pos e]
      · rw [if_neg e]; exact a3
    · rw [if_neg q1]
      by_cases q2 : gO I2 a r = true
      · rw [if_pos q2]
        have h4 := eqx_tr h2 (eqx_go I2 r (c - 1) (I2 21 r))
        refine ⟨Nat.le_succ_of_le h1, eqx_tr h4 (eqx_pw (wfC_x hw h4)), fun b hb => ?_⟩
        cases hb
        refine ⟨hr, a2, ?_⟩
        show pw nr ns (goI I2 r (c - 1) (I2 21 r)) a r (c - 1) 27 r = nI (c - 1)
        rw [pw_27 (by decide) (wfC_x hw h4)]
        unfold goI sI
        rw [uI_n (by decide), uI_s, pk_us]
      · rw [if_neg q2]; exact bg
theorem fj_ok {nr n ns plate : Nat} {I : wI} (hw : wfC I nr n ns) : ∀ p, p ≤ n → fok I n p (fj nr ns plate I p)
  | 0, _ => ⟨Nat.le_refl _, eqx_rf I, fun a h => by cases h⟩
  | p + 1, hp => by
    have h := fj_ok (plate := plate) hw p (by omega)
    show fok I n (p + 1) (stp nr ns plate (fj nr ns plate I p) p)
    unfold stp
    have hw2 := wfC_x hw h.2.1
    split
    · exact plc_ok hw h (ord_tn hw2.2.2.2.2.1 (by omega) hw.2.2.2.1).1
    · exact ⟨Nat.le_succ_of_le h.1, h.2⟩
theorem upd_self {V : wV} {k : Nat} {x : Int32} (h : V k = x) : upd V k x = V := funext fun j => by
  unfold upd
  by_cases e : j = k
  · rw [if_pos e, e, h]
  · rw [if_neg e]
theorem upd_upd (V : wV) (k : Nat) (x y : Int32) : upd (upd V k x) k y = upd V k y := funext fun j => by
  unfold upd
  by_cases e : j = k
  · rw [if_pos e, if_pos e]
  · rw [if_neg e, if_neg e, if_neg e]
theorem oE_sI {I : wI} {o j r : Nat} {x at9 : Int32} (ho : 47 ≤ o) : oE (sI I o j x) r at9 = oE I r at9 := by
  unfold oE sI
  rw [uI_n (by omega), uI_n (by omega)]
