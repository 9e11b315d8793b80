abbrev vwCl : List vw_C := [(RX0, TX0, 4), (RX1, TX1, 7), (RX2, TX2, 6), (RX3, TX3, 6), (RX4, TX4, 7), (RX5, TX5, 3), (RX6, TX6, 7), (RX7, TX7, 37)]
/-! THE ONE WORLD: every object and array of the class, of the reference and of the law, each by a number; what they hold is (V, I, J): the int fields, the int (and boolean) arrays, the long arrays -/
/-- the arrays by number from 8 on: kind (0 int, 1 boolean, 2 long, 3 rows of ints) and length -/
def wTab : List (Nat × Nat) := [(0,24),(0,24),(0,24),(0,24),(0,3),(0,3),(0,10),(0,10),(0,20),(0,20),(0,20),(0,100),(0,100),(0,100),(1,100),(0,100),(0,100),(0,100),(0,100),(0,100),(1,100),(2,6),(2,10),(2,10),(2,4),(3,12),(3,4),
  (0,12),(0,12),(0,12),(0,12),(0,12),(0,12),(0,12),(0,12),(0,12),(0,12),(0,12),(0,12),(0,100),(0,100),(0,100),(0,100),
  (0,24),(0,24),(0,24),(0,24),(0,144),(0,3),(0,3),(0,10),(0,10),(2,10),(2,10),(2,6),(2,4),(0,20),(0,20),(0,20),(0,100),(0,100),(0,100),(1,100),(1,100),(0,100),(1,100),(0,100),(0,100),(0,100),(2,400),(2,100),(2,400),(2,1)]
def wKd (k : Nat) : Nat := (wTab.getD (k - 8) (0, 0)).1
def wLn (k : Nat) : Nat := (wTab.getD (k - 8) (0, 0)).2
/-- where the rows of an array of rows begin -/
def wBs (k : Nat) : Nat := if k = 33 then 35 else 47
/-- the classes' numbers, the addresses, the heap's size at the law's start, the array classes -/
abbrev wG : Type := va_G × (Nat → Nat) × Nat × (Nat → ClassId)
abbrev wV : Type := Nat → Int32
abbrev wI : Type := Nat → Nat → Int32
abbrev wJ : Type := Nat → Nat → Int64
def wArr (G : wG) (I : wI) (J : wJ) (k : Nat) : va_E := .inl (G.2.2.2 (wKd k), wLn k, if wKd k = 2 then .inr (.inl (J k)) else if wKd k = 3 then .inr (.inr (.inr (.inr (fun j => if j < wLn k then some (G.2.1 (wBs k + j)) else none)))) else .inl (I k))
def wEnt (G : wG) (V : wV) (I : wI) (J : wJ) : Nat → va_E
  | 0 => .inr (6, [.ref (G.2.1 1), .ref (G.2.1 2), .ref (G.2.1 3), .ref (G.2.1 4), .ref (G.2.1 5), .ref (G.2.1 6), .int (V 0)])
  | 1 => .inr (4, [.ref (G.2.1 8), .ref (G.2.1 9), .ref (G.2.1 10), .ref (G.2.1 11), .ref (G.2.1 33), .int (V 1), .int (V 2)])
  | 2 => .inr (5, [.ref (G.2.1 12), .ref (G.2.1 13), .int (V 3)])
  | 3 => .inr (2, [.ref (G.2.1 14), .ref (G.2.1 15), .ref (G.2.1 16), .ref (G.2.1 17), .ref (G.2.1 18), .int (V 4)])
  | 4 => .inr (3, [.ref (G.2.1 19), .ref (G.2.1 20), .ref (G.2.1 21), .ref (G.2.1 22), .ref (G.2.1 23), .int (V 5)])
  | 5 => .inr (1, [.ref (G.2.1 24), .ref (G.2.1 25), .ref (G.2.1 26), .ref (G.2.1 34), .ref (G.2.1 27), .ref (G.2.1 28), .int (V 6)])
  | 6 => .inr (0, [.ref (G.2.1 29), .ref (G.2.1 30), .ref (G.2.1 31), .ref (G.2.1 32)])
  | 7 => .inr (7, [.int (V 7), .int (V 8), .int (V 9), .int (V 10), .ref (G.2.1 51), .ref (G.2.1 52), .ref (G.2.1 53), .ref (G.2.1 54), .ref (G.2.1 55), .ref (G.2.1 56), .ref (G.2.1 57), .int (V 11), .ref (G.2.1 58), .ref (G.2.1 59), .ref (G.2.1 60), .ref (G.2.1 61), .ref (G.2.1 62), .ref (G.2.1 63), .int (V 12), .ref (G.2.1 64), .ref (G.2.1 65), .ref (G.2.1 66), .int (V 13), .ref (G.2.1 67), .ref (G.2.1 68), .ref (G.2.1 69), .ref (G.2.1 70), .ref (G.2.1 71), .ref (G.2.1 72), .ref (G.2.1 73), .int (V 14), .ref (G.2.1 74), .ref (G.2.1 75), .ref (G.2.1 76), .ref (G.2.1 77), .ref (G.2.1 78), .ref (G.2.1 79)])
  | k + 8 => wArr G I J (k + 8)
def Wd (G : wG) (V : wV) (I : wI) (J : wJ) : va_W := (List.range 81).map (fun k => (G.2.1 k, wEnt G V I J k))
theorem wd_at (G : wG) (V : wV) (I : wI) (J : wJ) {k : Nat} (h : k < 81) : (Wd G V I J)[k]? = some (G.2.1 k, wEnt G V I J k) := by
  unfold Wd
  rw [List.getElem?_map, List.getElem?_range h]
  rfl
theorem wd_set {G : wG} {V V' : wV} {I I' : wI} {J J' : wJ} {k : Nat} {e : va_E} (hk : k < 81) (he : e = wEnt G V' I' J' k) (ho : ∀ j, j ≠ k → wEnt G V I J j = wEnt G V' I' J' j) : (Wd G V I J).set k (G.2.1 k, e) = Wd G V' I' J' := by
  apply List.ext_getElem?
  intro j
  rcases Nat.lt_or_ge j 81 with hj | hj
  · rw [wd_at G V' I' J' hj, List.getElem?_set]
    have hl : (Wd G V I J).length = 81 := by unfold Wd; rw [List.length_map, List.length_range]
    by_cases e1 : k = j
    · subst e1
      rw [if_pos rfl, if_pos (by rw [hl]; exact hk), he]
    · rw [if_neg e1, wd_at G V I J hj, ho j (fun q => e1 q.symm)]
  · have hl : (Wd G V I J).length = 81 := by unfold Wd; rw [List.length_map, List.length_range]
    have hl2 : (Wd G V' I' J').length = 81 := by unfold Wd; rw [List.length_map, List.length_range]
    rw [List.getElem?_eq_none (by rw [List.length_set, hl]; exact hj), List.getElem?_eq_none (by rw [hl2]; exact hj)]
theorem wEnt_arr (G : wG) (V : wV) (I : wI) (J : wJ) {k : Nat} (h : 8 ≤ k) : wEnt G V I J k = wArr G I J k := by
  obtain ⟨j, rfl⟩ : ∃ j, k = j + 8 := ⟨k - 8, by omega⟩
  rfl
/-- array number k holds f from now on -/
def uI (I : wI) (k : Nat) (f : Nat → Int32) : wI := fun a => if a = k then f else I a
def uJ (J : wJ) (k : Nat) (f : Nat → Int64) : wJ := fun a => if a = k then f else J a
theorem uI_s {I : wI} {k : Nat} {f : Nat → Int32} : uI I k f k = f := if_pos rfl
theorem uI_n {I : wI} {k j : Nat} {f : Nat → Int32} (h : j ≠ k) : uI I k f j = I j := if_neg h
theorem uJ_s {J : wJ} {k : Nat} {f : Nat → Int64} : uJ J k f k = f := if_pos rfl
theorem uJ_n {J : wJ} {k j : Nat} {f : Nat → Int64} (h : j ≠ k) : uJ J k f j = J j := if_neg h
theorem wd_setI {G : wG} {V : wV} {I : wI} {J : wJ} {k : Nat} {f : Nat → Int32} (hk : k < 81) (h8 : 8 ≤ k) (hd : wKd k ≠ 2) (hd3 : wKd k ≠ 3) : (Wd G V I J).set k (G.2.1 k, .inl (G.2.2.2 (wKd k), wLn k, .inl f)) = Wd G V (uI I k f) J := by
  refine wd_set hk ?_ (fun j hj => ?_)
  · rw [wEnt_arr G _ _ _ h8]
    unfold wArr
    rw [if_neg hd, if_neg hd3, uI_s]
  · rcases Nat.lt_or_ge j 8 with h | h
    · rcases (show j = 0 ∨ j = 1 ∨ j = 2 ∨ j = 3 ∨ j = 4 ∨ j = 5 ∨ j = 6 ∨ j = 7 by omega) with rfl | rfl | rfl | rfl | rfl | rfl | rfl | rfl <;> rfl
    · rw [wEnt_arr G _ _ _ h, wEnt_arr G _ _ _ h]
      unfold wArr
      rw [uI_n hj]
theorem wd_setJ {G : wG} {V : wV} {I : wI} {J : wJ} {k : Nat} {f : Nat → Int64} (hk : k < 81) (h8 : 8 ≤ k) (hd : wKd k = 2) : (Wd G V I J).set k (G.2.1 k, .inl (G.2.2.2 (wKd k), wLn k, .inr (.inl f))) = Wd G V I (uJ J k f) := by
  refine wd_set hk ?_ (fun j hj => ?_)
  · rw [wEnt_arr G _ _ _ h8]
    unfold wArr
    rw [if_pos hd, uJ_s]
  · rcases Nat.lt_or_ge j 8 with h | h
    · rcases (show j = 0 ∨ j = 1 ∨ j = 2 ∨ j = 3 ∨ j = 4 ∨ j = 5 ∨ j = 6 ∨ j = 7 by omega) with rfl | rfl | rfl | rfl | rfl | rfl | rfl | rfl <;> rfl
    · rw [wEnt_arr G _ _ _ h, wEnt_arr G _ _ _ h]
      unfold wArr
      rw [uJ_n hj]
theorem wd_atI (G : wG) (V : wV) (I : wI) (J : wJ) {k : Nat} (hk : k < 81) (h8 : 8 ≤ k) (hd : wKd k ≠ 2) (hd3 : wKd k ≠ 3) : (Wd G V I J)[k]? = some (G.2.1 k, .inl (G.2.2.2 (wKd k), wLn k, .inl (I k))) := by
  rw [wd_at G V I J hk, wEnt_arr G V I J h8]
  unfold wArr
  rw [if_neg hd, if_neg hd3]
theorem wd_atJ (G : wG) (V : wV) (I : wI) (J : wJ) {k : Nat} (hk : k < 81) (h8 : 8 ≤ k) (hd : wKd k = 2) : (Wd G V I J)[k]? = some (G.2.1 k, .inl (G.2.2.2 (wKd k), wLn k, .inr (.inl (J k)))) := by
  rw [wd_at G V I J hk, wEnt_arr G V I J h8]
  unfold wArr
  rw [if_pos hd]
theorem wd_atQ (G : wG) (V : wV) (I : wI) (J : wJ) {k : Nat} (hk : k < 81) (h8 : 8 ≤ k) (hd : wKd k = 3) : (Wd G V I J)[k]? = some (G.2.1 k, .inl (G.2.2.2 (wKd k), wLn k, .inr (.inr (.inr (.inr (fun j => if j < wLn k then some (G.2.1 (wBs k + j)) else none)))))) := by
  rw [wd_at G V I J hk, wEnt_arr G V I J h8]
  unfold wArr
  rw [if_neg (by rw [hd]; decide), if_pos hd]
/-- what the tables know of the array classes -/
def wTy (G : wG) : List (ClassId × FieldType) := [(G.2.2.2 0, .int), (G.2.2.2 1, .boolean), (G.2.2.2 2, .long), (G.2.2.2 3, .array .int)]

/-- the texts of what is thrown: places in the class's pool -/
def wStr : List (Nat × String) := [(60, "there are as many gates as there can be"), (234, "there is no such gate"), (242, "an argument is out of range"), (79, "a road joins two gates"), (85, "there are as many roads as there can be"), (238, "there is no such plate"), (240, "there is no such holde\x72"), (121, "there are as many spans as there can be"), (130, "there are as many readings as there can be"), (236, "there is no such reading"), (142, "the reading is struck"), (144, "now would be behind the last minute"), (177, "a place is from 0 on"), (184, "there is no such journey"), (228, "there is no such owne\x72")]
/-- fields of nest mates that the class reads and writes -/
def wNst : List (String × Nat × String × String × String × String) := [("Tollweave", 284, "Tollweave$Roads", "length", "[I", "Tollweave"), ("Tollweave", 290, "Tollweave$Roads", "owner", "[I", "Tollweave"), ("Tollweave", 171, "Tollweave$Roads", "distance", "[[I", "Tollweave"), ("Tollweave", 55, "Tollweave$Roads", "gateCount", "I", "Tollweave"), ("Tollweave", 82, "Tollweave$Roads", "roadCount", "I", "Tollweave"), ("Tollweave", 91, "Tollweave$Tariff", "rate", "[I", "Tollweave"), ("Tollweave", 95, "Tollweave$Tariff", "busyPercent", "[I", "Tollweave"), ("Tollweave", 99, "Tollweave$Tariff", "mostCents", "I", "Tollweave"), ("Tollweave", 105, "Tollweave$Plates", "kind", "[I", "Tollweave"), ("Tollweave", 108, "Tollweave$Plates", "holder", "[I", "Tollweave"), ("Tollweave", 118, "Tollweave$Plates", "spanCount", "I", "Tollweave"), ("Tollweave", 205, "Tollweave$Readings", "gateOf", "[I", "Tollweave"), ("Tollweave", 208, "Tollweave$Readings", "plateOf", "[I", "Tollweave"), ("Tollweave", 211, "Tollweave$Readings", "minuteOf", "[I", "Tollweave"), ("Tollweave", 138, "Tollweave$Readings", "isStruck", "[Z", "Tollweave"), ("Tollweave", 247, "Tollweave$Readings", "inOrder", "[I", "Tollweave"), ("Tollweave", 127, "Tollweave$Readings", "count", "I", "Tollweave"), ("Tollweave", 186, "Tollweave$Journeys", "firstMinute", "[I", "Tollweave"), ("Tollweave", 189, "Tollweave$Journeys", "lastMinute", "[I", "Tollweave"), ("Tollweave", 192, "Tollweave$Journeys", "counting", "[I", "Tollweave"), ("Tollweave", 257, "Tollweave$Journeys", "journeyOf", "[I", "Tollweave"), ("Tollweave", 299, "Tollweave$Journeys", "isDouble", "[Z", "Tollweave"), ("Tollweave", 183, "Tollweave$Journeys", "count", "I", "Tollweave"), ("Tollweave", 114, "Tollweave$Accounts", "wallet", "[J", "Tollweave"), ("Tollweave", 225, "Tollweave$Accounts", "own", "[J", "Tollweave"), ("Tollweave", 222, "Tollweave$Accounts", "billed", "[J", "Tollweave"), ("Tollweave", 160, "Tollweave$Accounts", "got", "[J", "Tollweave")]
def wDec : List MethodName := [⟨"java/lang/RuntimeException", "<init>", "(Ljava/lang/String;)V"⟩, ⟨"java/lang/Exception", "<init>", "(Ljava/lang/String;)V"⟩, ⟨"java/lang/Throwable", "<init>", "(Ljava/lang/String;)V"⟩]
def wExc : List String := ["java/lang/IllegalStateException", "java/lang/IllegalArgumentException", "java/lang/IndexOutOfBoundsException"]
/-- what is known beside the world: the two statics of a throw, the texts, the nest mates, the casts -/
def wX (G : wG) (U : State) (H : Heap) : Prop := vx_Zq Bundle.tN "UNASSIGNED_STACK" Bundle.steD (fun q => G.2.2.1 ≤ q) U H ∧ vx_Zq Bundle.tN "SUPPRESSED_SENTINEL" Bundle.listD (fun q => G.2.2.1 ≤ q) U H ∧ (∀ q ∈ wStr, ∃ a, vk_R RX6 q.1 q.2 a U) ∧ (∀ q ∈ wNst, va_Nw (.fieldLinkNest q.1 q.2.1 q.2.2.1 q.2.2.2.1 q.2.2.2.2.1 q.2.2.2.2.2) U) ∧ (∀ q ∈ wExc, va_Nw (.castable q q) U) ∧ (∀ a ∈ wExc, ∀ b ∈ wExc, a ≠ b → va_Nc a b U) ∧ (∀ y ∈ wDec, va_Nw (.declares y) U)
theorem wX.warm {G : wG} {s U : State} {H : Heap} (hW : s.WarmedH U.vm) (h : wX G s H) : wX G U H := by
  obtain ⟨h1, h2, h3, h4, h5, h6, h7⟩ := h
  refine ⟨vx_Zq.moved hW.alike h1, vx_Zq.moved hW.alike h2, fun q hq => ?_, fun q hq => (h4 q hq).warmF hW, fun q hq => (h5 q hq).warmC hW, fun a ha b hb hab => (h6 a ha b hb hab).moved hW.alike, fun y hy => (h7 y hy).warmD hW⟩
  obtain ⟨a, ha⟩ := h3 q hq
  exact ⟨a, ha.warm hW⟩
theorem wX.kept {G : wG} {s : State} {H H1 : Heap} (h : wX G s H) (hq : ∀ a : Nat, a < H.size → ¬ (fun q => G.2.2.1 ≤ q) a → H1[a]? = H[a]?) : wX G s H1 := by
  obtain ⟨h1, h2, h3, h4, h5, h6⟩ := h
  exact ⟨h1.kept hq, h2.kept hq, h3, h4, h5, h6⟩
def wD (G : wG) : Prop := ∀ (V : wV) (I : wI) (J : wJ), va_D (fun q => G.2.2.1 ≤ q) (Wd G V I J)
/-- the walk of one method: program, launch, environment, room, start, method, arguments, what lies below, its row, its code -/
abbrev wK : Type := Program × Launch × Env × Room × State × MethodId × Array Value × List Frame × Method × Code
abbrev kp (K : wK) : Program := K.1
abbrev kl (K : wK) : Launch := K.2.1
abbrev ke (K : wK) : Env := K.2.2.1
abbrev kR (K : wK) : Room := K.2.2.2.1
abbrev ks (K : wK) : State := K.2.2.2.2.1
abbrev km (K : wK) : MethodId := K.2.2.2.2.2.1
abbrev ka (K : wK) : Array Value := K.2.2.2.2.2.2.1
abbrev kb (K : wK) : List Frame := K.2.2.2.2.2.2.2.1
abbrev kt (K : wK) : Method := K.2.2.2.2.2.2.2.2.1
abbrev kc (K : wK) : Code := K.2.2.2.2.2.2.2.2.2
abbrev wA (G : wG) : Nat → Prop := fun q => G.2.2.1 ≤ q
/-- the machine, at pc with locals lv and stack st over the world (V, I, J), comes to a state with Q -/
def WW (K : wK) (G : wG) (cells slots : Nat) (Q : State → Prop) (V : wV) (I : wI) (J : wJ) (pc : Nat) (lv : List (Nat × Value)) (st : List Value) : Prop :=
  ∀ (H : Heap) (locs : List Loc) (ls : Array Slot), va_P G.1 vwCl (Wd G V I J) H → va_S (wA G) (ks K).heap H locs → lv_has ls (kc K).maxLocals lv → W (kp K) (kl K) (ke K) (kR K) (ks K) (km K) (ka K) (kb K) (kt K) (kc K) H locs cells slots Q (F0 (km K) pc ls st)
/-- .. with a throw of class E over it -/
def XW (K : wK) (G : wG) (cells slots : Nat) (Q : State → Prop) (V : wV) (I : wI) (J : wJ) (pc : Nat) (lv : List (Nat × Value)) (E : String) : Prop :=
  ∀ (H : Heap) (locs : List Loc) (ls : Array Slot) (q : Addr) (ce : Cell) (rest : List Value), va_P G.1 vwCl (Wd G V I J) H → va_S (wA G) (ks K).heap H locs → lv_has ls (kc K).maxLocals lv → H[q]? = some ce → ce.vm = .none → (ks K).vm.findClass E = some ce.cls → vx_W (kp K) (kl K) (ke K) (kR K) (ks K) (km K) (ka K) (kb K) (kt K) (kc K) H locs cells slots Q (F0 (km K) pc ls rest) q
/-- what holds of a walk from its start on -/
def Cx (K : wK) (G : wG) (own : String) (cc : ByteArray) (nL : Nat) : Prop :=
  CallFix (kp K) (km K) (kc K) cc nL (ks K) (ka K) TT own ∧ va_K G.1 vwCl (wTy G) (ks K) ∧ wD G ∧ G.2.2.1 ≤ (ks K).heap.size ∧ (kt K).locks = false ∧ wX G (ks K) (ks K).heap ∧ (kl K).stackTraces = false
abbrev wPo : Type := Option Value → wV → wI → wJ → Prop
abbrev wPx : Type := String → wV → wI → wJ → Prop
/-- no throw -/
def noX : wPx := fun _ _ _ _ => False
def cP (G : wG) (av : List Value) (V : wV) (I : wI) (J : wJ) : Array Value → State → Prop := fun a U => a = av.toArray ∧ va_P G.1 vwCl (Wd G V I J) U.heap ∧ va_K G.1 vwCl (wTy G) U ∧ G.2.2.1 ≤ U.heap.size ∧ wX G U U.heap
def cQ (G : wG) (post : wPo) : Array Value → State → Outcome → State → Prop := fun _ st o t => (∃ (r : Option Value) (V : wV) (I : wI) (J : wJ), o = .returned r ∧ post r V I J ∧ va_P G.1 vwCl (Wd G V I J) t.heap) ∧ va_F (wA G) st t
def cX (G : wG) (xp : wPx) : String → State → State → Prop := fun E st t => (∃ (V : wV) (I : wI) (J : wJ), xp E V I J ∧ va_P G.1 vwCl (Wd G V I J) t.heap) ∧ va_F (wA G) st t
/-- a method's contract over the one world: from (V, I, J) with the arguments av it returns with post, or throws with xp -/
def Ctr (l : Launch) (y : MethodName) (bytes : ByteArray) (maxL : Nat) (ret : Option FieldType) (rm : Room) (G : wG) (av : List Value) (V : wV) (I : wI) (J : wJ) (post : wPo) (xp : wPx) : Prop :=
  vx_Met l y (Cond.code y bytes maxL ret :: TT) rm (cP G av V I J) (cQ G post) (cX G xp) rm.cells rm.slots (wA G)
abbrev QM (K : wK) (G : wG) (rm : Room) (post : wPo) (xp : wPx) : State → Prop := vx_MQ (kb K) (cQ G post) (cX G xp) (ka K) (ks K) rm.cells rm.slots (wA G)
theorem cP_blind {G : wG} {av : List Value} {V : wV} {I : wI} {J : wJ} : FrameBlind (cP G av V I J) := fun a U g mk q => ⟨q.1, q.2.1, va_K.moved (u := U) (U := U.calling g mk a) (Vm.Alike.refl U.vm) q.2.2.1, q.2.2.2.1, wX.warm (s := U) (U := U.calling g mk a) (State.WarmedH.refl U) q.2.2.2.2⟩
theorem ctr_of {l : Launch} {y : MethodName} {bytes : ByteArray} {maxL : Nat} {ret : Option FieldType} {rm : Room} {G : wG} {av : List Value} {V : wV} {I : wI} {J : wJ} {post : wPo} {xp : wPx} (hl : l.stackTraces = false) (hG : wD G) (hy : plainName y.cls = true) (hn : (lg_sl av).length ≤ maxL) (lv : List (Nat × Value)) (hlv : lv_args 0 av = lv)
    (body : ∀ K : wK, Cx K G y.cls bytes maxL → kl K = l → kR K = rm → (kt K).sig.returnType = ret → (∀ x ∈ (kc K).exceptionTable.toList, False) → WW K G 0 0 (QM K G rm post xp) V I J 0 lv []) : Ctr l y bytes maxL ret rm G av V I J post xp := by
  refine vx_ofW (cc := bytes) (maxL := maxL) (ret := ret) hy rfl ?_
  intro p e s m args below meth c s₁ B hml ht hv
  obtain ⟨rfl, hP, hK, hN, hX⟩ := hv
  have hts := atoms_spec (ws := Cond.code y bytes maxL ret :: TT) B.pre
  have h := body (p, l, e, rm, s, m, av.toArray, below, meth, c) ⟨⟨B.exec, B.bytes, hml, findClass_of_methodNamed B.named, fun w hw => hts w (List.mem_cons_of_mem _ hw)⟩, hK, hG, hN, B.notSynchronized, hX, hl⟩ rfl rfl B.returns ht
  rw [lg_entry_eq]
  refine h s.heap [] _ hP va_S.rf ?_
  subst hlv
  show lv_has _ c.maxLocals _
  rw [hml]
  exact lv_entry av hn
