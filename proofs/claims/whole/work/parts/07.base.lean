/-! ===== the store: every cell of the class's and of the reference's objects has a number (id); the cells' shapes are fixed, ints and longs vary ===== -/
abbrev Sto : Type := (Nat → Nat → Int32) × (Nat → Int64)
abbrev NC : Nat := 131
/-- kinds: 0 .. 8 an object of that class (vwCl); 10 int[], 11 boolean[], 12 int[][], 13 Scene[], 14 Taster[] -/
def kd (k : Nat) : Nat :=
  if k < 25 then [7, 6, 10, 12, 10, 0, 14, 10, 10, 1, 13, 13, 11, 4, 10, 12, 12, 12, 2, 10, 10, 10, 10, 10, 11].getD k 99
  else if k < 39 then (if k % 2 = 1 then 5 else 10)
  else if k < 95 then (if k % 4 = 3 then 3 else 10)
  else if k < 117 then 10
  else if k = 117 then 8
  else if k = 123 then 11
  else if k < 131 then 10 else 99
def ln (k : Nat) : Nat :=
  if k < 25 then [0, 0, 120, 6, 4, 0, 6, 64, 7, 0, 10, 2, 2, 0, 4, 4, 6, 6, 0, 5, 1296, 1296, 1296, 1296, 1296].getD k 0
  else if k < 39 then 4
  else if k < 95 then (if k % 4 = 0 then 4 else 6)
  else if k < 101 then 6
  else if k < 111 then 4
  else if k < 117 then 9
  else [0, 24, 6, 11, 110, 22, 2, 16, 4, 120, 36, 4, 11, 9].getD (k - 117) 0
def rf (k j : Nat) : Nat :=
  if 25 ≤ k ∧ k < 117 then k + 1 + j
  else if k = 0 then [1, 5, 39, 9, 11, 12, 13, 18].getD j 0
  else if k = 1 then [2, 0, 3, 0, 4].getD j 0
  else if k = 3 then 95 + j
  else if k = 5 then [6, 0, 7, 8].getD j 0
  else if k = 6 then 25 + 2 * j
  else if k = 9 then 10
  else if k = 10 then 55 + 4 * j
  else if k = 11 then 47 + 4 * j
  else if k = 13 then [14, 15, 0, 37, 0, 0, 0, 16, 17].getD j 0
  else if k = 15 then 101 + j
  else if k = 16 then 105 + j
  else if k = 17 then 111 + j
  else if k = 18 then [19, 20, 21, 22, 23, 0, 24, 43].getD j 0
  else [0, 118, 119, 120, 121, 0, 122, 123, 0, 124, 125, 0, 126, 0, 0, 0, 0, 0, 0, 0, 0, 127, 0, 128, 129, 130].getD j 0
def nfl (c : Nat) : Nat := [4, 3, 8, 3, 9, 2, 7, 9, 26].getD c 0
/-- what a field holds: 0 int, 1 boolean, 2 long, 3 a reference -/
def fty (c j : Nat) : Nat := ([[3, 0, 3, 3], [3, 0, 0], [3, 3, 3, 3, 3, 0, 3, 3], [3, 3, 3], [3, 3, 0, 3, 0, 0, 0, 3, 3], [3, 0], [3, 0, 3, 0, 3, 1, 0], [3, 3, 3, 3, 3, 3, 3, 3, 2], [0, 3, 3, 3, 3, 0, 3, 3, 0, 3, 3, 2, 3, 0, 0, 0, 0, 0, 1, 0, 0, 3, 1, 3, 3, 3]].getD c []).getD j 0
def fv (ρ : Nat → Nat) (σ : Sto) (k j : Nat) : Value := if fty (kd k) j = 3 then .ref (ρ (rf k j)) else if fty (kd k) j = 2 then .long (σ.2 k) else .int (σ.1 k j)
def ce (ka : Nat → ClassId) (ρ : Nat → Nat) (σ : Sto) (k : Nat) : va_E :=
  if kd k < 9 then .inr (kd k, (List.range (nfl (kd k))).map (fv ρ σ k))
  else if kd k < 12 then .inl (ka (kd k), ln k, .inl (σ.1 k))
  else .inl (ka (kd k), ln k, .inr (.inr (.inr (.inr (fun i => some (ρ (rf k i)))))))
abbrev tysOf (ka : Nat → ClassId) : List (ClassId × FieldType) := [(ka 10, .int), (ka 11, .boolean), (ka 12, .array .int), (ka 13, .object RX3), (ka 14, .object RX5)]
def wsO (ka : Nat → ClassId) (ρ : Nat → Nat) (σ : Sto) : va_W := (List.range NC).map (fun k => (ρ k, ce ka ρ σ k))
def Inj (ρ : Nat → Nat) : Prop := ∀ i j, i < NC → j < NC → ρ i = ρ j → i = j
def Ar (ρ : Nat → Nat) : Nat → Prop := fun q => ∃ k, k < NC ∧ q = ρ k
/-- the tables' words that a contract may carry; and those of nest mates -/
def TBg : List Cond := lw_tbl.filter goodWord
def NW : List Cond := [.fieldLinkNest RX6 15 RX7 "LIMITS" "[I" RX7, .methodLinkNest RX2 77 ⟨RX7, "numberOf", "([I)I"⟩ RX7, .methodLinkNest RX2 56 ⟨RX7, "rowOf", "(I[I)V"⟩ RX7, .methodLinkNest RX2 73 ⟨RX7, "change", "([II)V"⟩ RX7, .methodLinkNest RX4 46 ⟨RX7, "rowOf", "(I[I)V"⟩ RX7, .methodLinkNest RX4 87 ⟨RX7, "change", "([II)V"⟩ RX7]
theorem tbg_of {w : Cond} (h : w ∈ lw_tbl) (hg : goodWord w = true) : w ∈ TBg := List.mem_filter.mpr ⟨h, hg⟩
theorem tbg_in {w : Cond} (h : w ∈ TBg) : w ∈ lw_tbl := (List.mem_filter.mp h).1
theorem tbg_at {w : Cond} (i : Nat) (h : lw_tbl[i]? = some w) (hg : goodWord w = true) : w ∈ TBg := tbg_of (List.mem_of_getElem? h) hg
theorem tbg_t {w : Cond} (i : Nat) (h : tables_1[i]? = some w) (hg : goodWord w = true) : w ∈ TBg := tbg_of (List.mem_append_right _ (List.mem_of_getElem? h)) hg
theorem tbg_s {w : Cond} (i : Nat) (h : (k2_sels lw_privs)[i]? = some w) (hg : goodWord w = true) : w ∈ TBg := tbg_of (List.mem_append_left _ (List.mem_of_getElem? h)) hg
def wsM (y : MethodName) (cc : ByteArray) (nL : Nat) (rt : Option FieldType) : List Cond := .code y cc nL rt :: TBg
theorem good_wsM {y : MethodName} {cc : ByteArray} {nL : Nat} {rt : Option FieldType} (h : Cond.code y cc nL rt ∈ TBg) : GoodIn TBg (wsM y cc nL rt) := by
  intro w hw
  have hm : w ∈ TBg := by
    rcases List.mem_cons.mp hw with e | e
    · rw [e]; exact h
    · exact e
  exact ⟨hm, good_of_word (List.mem_filter.mp hm).2⟩
/-! a value by ids, and as the machine has it -/
def tv (ρ : Nat → Nat) (v : Value) : Value := match v with
  | .ref k => .ref (ρ k)
  | w => w
theorem tv_cat (ρ : Nat → Nat) (v : Value) : (tv ρ v).category = v.category := by cases v <;> rfl
abbrev En : Type := va_G × (Nat → ClassId) × (Nat → Nat)
abbrev Scr : Type := Nat × (Nat → Int32)
def limV : Nat → Value := fun j => .int ([5, 5, 5, 5, 2, 1].getD j 0)
def Wd (S : Scr) (E : En) (U : State) : Prop :=
  va_K E.1 vwCl (tysOf E.2.1) U ∧ (∀ w ∈ NW, va_Nw w U) ∧ va_Z RX7 "LIMITS" "[I" (.ref (E.2.2 131)) (Ar E.2.2) U U.heap ∧ va_T .int (E.2.2 131) 6 limV (Ar E.2.2) U U.heap ∧ va_X (E.2.2 132) S.1 S.2 U U.heap ∧ E.2.2 132 < U.heap.size ∧ ¬ Ar E.2.2 (E.2.2 132)
def Rp (E : En) (σ : Sto) (H : Heap) : Prop := va_P E.1 vwCl (wsO E.2.1 E.2.2 σ) H
theorem wsO_at {ka : Nat → ClassId} {ρ : Nat → Nat} {σ : Sto} {k : Nat} (h : k < NC) : (wsO ka ρ σ)[k]? = some (ρ k, ce ka ρ σ k) := by
  unfold wsO
  rw [List.getElem?_map, List.getElem?_range h]
  rfl
theorem wsO_inv {ka : Nat → ClassId} {ρ : Nat → Nat} {σ : Sto} {k : Nat} {q : Nat × va_E} (h : (wsO ka ρ σ)[k]? = some q) : k < NC ∧ q = (ρ k, ce ka ρ σ k) := by
  have hk : k < NC := by
    have := (List.getElem?_eq_some_iff.mp h).1
    simpa [wsO] using this
  exact ⟨hk, (Option.some.inj (h.symm.trans (wsO_at hk)))⟩
theorem wsO_D {ka : Nat → ClassId} {ρ : Nat → Nat} {σ : Sto} (h : Inj ρ) : va_D (Ar ρ) (wsO ka ρ σ) := by
  refine ⟨fun i j p q hp hq e => ?_, fun k q hq => ?_⟩
  · obtain ⟨h1, rfl⟩ := wsO_inv hp
    obtain ⟨h2, rfl⟩ := wsO_inv hq
    exact h i j h1 h2 e
  · obtain ⟨h1, rfl⟩ := wsO_inv hq
    exact ⟨k, h1, rfl⟩
/-- one cell set: the world of another store -/
theorem wsO_set {ka : Nat → ClassId} {ρ : Nat → Nat} {σ σ' : Sto} {k : Nat} {q : Nat × va_E} (hk : k < NC) (hq : q = (ρ k, ce ka ρ σ' k)) (ho : ∀ j, j < NC → j ≠ k → ce ka ρ σ' j = ce ka ρ σ j) : (wsO ka ρ σ).set k q = wsO ka ρ σ' := by
  apply List.ext_getElem?
  intro i
  by_cases hi : i < NC
  · rw [wsO_at hi]
    by_cases e : i = k
    · subst e
      rw [List.getElem?_set_self (by simp [wsO]; exact hi), hq]
    · rw [List.getElem?_set_ne (fun z => e z.symm), wsO_at hi, ho i hi e]
  · rw [List.getElem?_eq_none (by simp [wsO]; omega), List.getElem?_eq_none (by simp [wsO]; omega)]
/-! stores -/
def wr (σ : Sto) (k i : Nat) (x : Int32) : Sto := (fun a b => if a = k ∧ b = i then x else σ.1 a b, σ.2)
def wrL (σ : Sto) (k : Nat) (x : Int64) : Sto := (σ.1, fun a => if a = k then x else σ.2 a)
def cpy (σ : Sto) (src sp dst dp n : Nat) : Sto := (fun a b => if a = dst ∧ dp ≤ b ∧ b < dp + n then σ.1 src (sp + (b - dp)) else σ.1 a b, σ.2)
theorem ce_wr_ne {ka : Nat → ClassId} {ρ : Nat → Nat} {σ : Sto} {k i j : Nat} {x : Int32} (h : j ≠ k) : ce ka ρ (wr σ k i x) j = ce ka ρ σ j := by
  have h1 : (wr σ k i x).1 j = σ.1 j := by funext b; simp [wr, h]
  have h2 : fv ρ (wr σ k i x) j = fv ρ σ j := by funext b; simp [fv, h, wr]
  unfold ce
  rw [h1, h2]
theorem ce_wrL_ne {ka : Nat → ClassId} {ρ : Nat → Nat} {σ : Sto} {k j : Nat} {x : Int64} (h : j ≠ k) : ce ka ρ (wrL σ k x) j = ce ka ρ σ j := by
  have h2 : fv ρ (wrL σ k x) j = fv ρ σ j := by funext b; simp [fv, wrL, h]
  unfold ce
  rw [h2]
  rfl
theorem ce_cpy_ne {ka : Nat → ClassId} {ρ : Nat → Nat} {σ : Sto} {src sp k dp n j : Nat} (h : j ≠ k) : ce ka ρ (cpy σ src sp k dp n) j = ce ka ρ σ j := by
  have h1 : (cpy σ src sp k dp n).1 j = σ.1 j := by funext b; simp [cpy, h]
  have h2 : fv ρ (cpy σ src sp k dp n) j = fv ρ σ j := by funext b; simp [fv, h, cpy]
  unfold ce
  rw [h1, h2]
/-! shapes -/
theorem ce_obj {ka : Nat → ClassId} {ρ : Nat → Nat} {σ : Sto} {k c : Nat} (h : kd k = c) (hc : c < 9) : ce ka ρ σ k = .inr (c, (List.range (nfl c)).map (fv ρ σ k)) := by
  unfold ce; rw [h, if_pos hc]
theorem ce_int {ka : Nat → ClassId} {ρ : Nat → Nat} {σ : Sto} {k c : Nat} (h : kd k = c) (h1 : 9 ≤ c) (h2 : c < 12) : ce ka ρ σ k = .inl (ka c, ln k, .inl (σ.1 k)) := by
  unfold ce; rw [h, if_neg (by omega), if_pos h2]
theorem ce_ref {ka : Nat → ClassId} {ρ : Nat → Nat} {σ : Sto} {k c : Nat} (h : kd k = c) (h1 : 12 ≤ c) : ce ka ρ σ k = .inl (ka c, ln k, .inr (.inr (.inr (.inr (fun i => some (ρ (rf k i))))))) := by
  unfold ce; rw [h, if_neg (by omega), if_neg (by omega)]
/-! locals -/
def Lo (ρ : Nat → Nat) (lsA : Array Slot) (n : Nat) (ls : List Value) : Prop := lsA.size = n ∧ lv_wf lsA ∧ (∀ (i : Nat) (v : Value), ls[i]? = some v → v ≠ .null → lsA[i]? = some (.val (tv ρ v))) ∧ ∀ v ∈ ls, v.category = 1
def lvl (ρ : Nat → Nat) (ls : List Value) : List (Nat × Value) := (List.range ls.length).filterMap (fun i => (ls[i]?).bind (fun v => if v = Value.null then none else some (i, tv ρ v)))
theorem lvl_mem {ρ : Nat → Nat} {ls : List Value} {i : Nat} {v : Value} (h : ls[i]? = some v) (hn : v ≠ .null) : (i, tv ρ v) ∈ lvl ρ ls := by
  refine List.mem_filterMap.mpr ⟨i, List.mem_range.mpr (List.getElem?_eq_some_iff.mp h).1, ?_⟩
  rw [h, Option.bind_some, if_neg hn]
theorem lvl_inv {ρ : Nat → Nat} {ls : List Value} {q : Nat × Value} (h : q ∈ lvl ρ ls) : ∃ v, ls[q.1]? = some v ∧ v ≠ .null ∧ q.2 = tv ρ v := by
  obtain ⟨i, -, hq⟩ := List.mem_filterMap.mp h
  cases hl : ls[i]? with
  | none => rw [hl] at hq; cases hq
  | some v =>
    rw [hl, Option.bind_some] at hq
    by_cases hn : v = .null
    · rw [if_pos hn] at hq; cases hq
    · rw [if_neg hn] at hq
      cases hq
      exact ⟨v, hl, hn, rfl⟩
theorem Lo.has {ρ : Nat → Nat} {lsA : Array Slot} {n : Nat} {ls : List Value} (h : Lo ρ lsA n ls) : lv_has lsA n (lvl ρ ls) := by
  refine ⟨h.1, h.2.1, fun q hq => ?_⟩
  obtain ⟨v, h1, h2, h3⟩ := lvl_inv hq
  rw [h3]
  exact h.2.2.1 _ _ h1 h2
theorem Lo.store {ρ : Nat → Nat} {lsA lsB : Array Slot} {n i : Nat} {ls : List Value} {v : Value} (h : Lo ρ lsA n ls) (hc : v.category = 1) (hs : lv_has lsB n ((i, tv ρ v) :: (lvl ρ ls).filter (fun q => !(q.1 == i) && !(q.1 + 1 == i && q.2.category == 2)))) : Lo ρ lsB n (ls.set i v) := by
  refine ⟨hs.1, hs.2.1, fun j w hj hw => ?_, fun w hw => ?_⟩
  · by_cases e : j = i
    · subst e
      have hlt : j < ls.length := by
        have := (List.getElem?_eq_some_iff.mp hj).1
        simpa using this
      rw [List.getElem?_set_self hlt] at hj
      cases hj
      exact hs.2.2 _ List.mem_cons_self
    · rw [List.getElem?_set_ne (fun z => e z.symm)] at hj
      refine hs.2.2 (j, tv ρ w) (List.mem_cons_of_mem _ (List.mem_filter.mpr ⟨lvl_mem hj hw, ?_⟩))
      have hcat : (tv ρ w).category = 1 := by rw [tv_cat]; exact h.2.2.2 w (List.mem_of_getElem? hj)
      simp [e, hcat]
  · rcases List.mem_or_eq_of_mem_set hw with h1 | h1
    · exact h.2.2.2 w h1
    · rw [h1]; exact hc
theorem Lo.at {ρ : Nat → Nat} {lsA : Array Slot} {n i : Nat} {ls : List Value} {v : Value} (h : Lo ρ lsA n ls) (hi : ls[i]? = some v) (hn : v ≠ .null) : lsA[i]? = some (.val (tv ρ v)) := h.2.2.1 i v hi hn
theorem Lo.put {ρ : Nat → Nat} {lsA : Array Slot} {n i : Nat} {ls : List Value} {v : Value} (h : Lo ρ lsA n ls) (hi : i < n) (hc : v.category = 1) : ∃ lsB, storeLocals lsA i (tv ρ v) = some lsB ∧ Lo ρ lsB n (ls.set i v) := by
  obtain ⟨lsB, h1, h2⟩ := lv_store1 (v := tv ρ v) h.has hi (by rw [tv_cat]; exact hc)
  exact ⟨lsB, h1, h.store hc h2⟩
/-! ===== the judgement: from pc with these locals, this operand stack and this store the method comes to a return with Q ===== -/
def RetAt (rt : Option FieldType) (cc : ByteArray) (pc : Nat) (r : Option Value) : Prop :=
  (r = none ∧ rt = none ∧ decode cc pc = .ok (.return_, 1)) ∨ (∃ (v : Int32) (ty : FieldType), r = some (.int v) ∧ rt = some ty ∧ narrow ty (.int v) = .int v ∧ decode cc pc = .ok (.ireturn, 1)) ∨ (∃ v : Int64, r = some (.long v) ∧ rt = some .long ∧ decode cc pc = .ok (.lreturn, 1))
def Fx (S : Scr) (own : String) (cc : ByteArray) (nL : Nat) (rt : Option FieldType) (d : Nat) (Q : Option Value → Sto → Prop) (E : En) (p : Program) (l : Launch) (e : Env) (R : Room) (s : State) (m : MethodId) (args : Array Value) (below : List Frame) (meth : Method) (c : Code) (cells slots : Nat) (QQ : State → Prop) : Prop :=
  p.tables.exec = Jvm.exec ∧ c.code = cc ∧ c.maxLocals = nL ∧ s.vm.findClass own = some m.cls ∧ (∀ w ∈ TBg, w.before args s = true) ∧ Inj E.2.2 ∧ Wd S E s ∧ d ≤ R.frames ∧ 36 * d ≤ R.locals ∧ cells ≤ R.cells ∧ slots ≤ R.slots ∧
  ∀ (r : Option Value) (σ' : Sto) (H' : Heap) (locs' : List Loc) (pc' : Nat) (lsA' : Array Slot), Q r σ' → Rp E σ' H' → va_S (Ar E.2.2) s.heap H' locs' → RetAt rt cc pc' r → W p l e R s m args below meth c H' locs' cells slots QQ (F0 m pc' lsA' (r.toList.map (tv E.2.2)))
def Ev (S : Scr) (own : String) (cc : ByteArray) (nL : Nat) (rt : Option FieldType) (d pc : Nat) (ls st : List Value) (σ : Sto) (Q : Option Value → Sto → Prop) : Prop :=
  ∀ (E : En) (p : Program) (l : Launch) (e : Env) (R : Room) (s : State) (m : MethodId) (args : Array Value) (below : List Frame) (meth : Method) (c : Code) (cells slots : Nat) (QQ : State → Prop),
    Fx S own cc nL rt d Q E p l e R s m args below meth c cells slots QQ → ∀ (H : Heap) (locs : List Loc) (lsA : Array Slot), Rp E σ H → va_S (Ar E.2.2) s.heap H locs → Lo E.2.2 lsA nL ls →
    W p l e R s m args below meth c H locs cells slots QQ (F0 m pc lsA (st.map (tv E.2.2)))
def rmD (d : Nat) : Room := { frames := d, cells := 0, slots := 0, locals := 36 * d }
def PcM (S : Scr) (E : En) (av : List Value) (σ : Sto) : Array Value → State → Prop := va_Pc (av.map (tv E.2.2)) (fun U => Wd S E U ∧ Rp E σ U.heap)
def QcM (E : En) (Q : Option Value → Sto → Prop) : Array Value → State → Outcome → State → Prop := fun _ st oc t => (∃ (r : Option Value) (σ' : Sto), oc = .returned (r.map (tv E.2.2)) ∧ Q r σ' ∧ Rp E σ' t.heap) ∧ va_F (Ar E.2.2) st t
/-- a method's contract at these arguments and this store -/
def Mt (S : Scr) (y : MethodName) (cc : ByteArray) (nL : Nat) (rt : Option FieldType) (d : Nat) (av : List Value) (σ : Sto) (Q : Option Value → Sto → Prop) : Prop :=
  ∀ (E : En) (l : Launch), Inj E.2.2 → Met l y (wsM y cc nL rt) (rmD d) (PcM S E av σ) (QcM E Q) 0 0 (Ar E.2.2)
abbrev Is (r0 : Option Value) (σ0 : Sto) : Option Value → Sto → Prop := fun r σ' => r = r0 ∧ σ' = σ0
