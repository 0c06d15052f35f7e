/-! ===== a row of rows: multianewarray with two counts ===== -/
def muF (h i : Nat) : Nat → Value := fun j => if j < i then .ref (h + 1 + j) else .null
def muB (Z : State) (cA cI : ClassId) (N M : Nat) : Nat → State
  | 0 => Z.pushCell (arrV cA N (muF Z.heap.size 0))
  | i + 1 => ((muB Z cA cI N M i).pushCell (arrV cI M (fun _ => .int 0))).setCell Z.heap.size (arrV cA N (muF Z.heap.size (i + 1)))
theorem muF_up (h i : Nat) : updV (muF h i) i (.ref (h + 1 + i)) = muF h (i + 1) := by
  funext j
  unfold updV muF
  by_cases e : j = i
  · subst e; rw [if_pos rfl, if_pos (Nat.lt_succ_self j)]
  · rw [if_neg e]
    by_cases q : j < i
    · rw [if_pos q, if_pos (by omega)]
    · rw [if_neg q, if_neg (by omega)]
theorem muB_facts (Z : State) (cA cI : ClassId) (N M : Nat) : ∀ i, (muB Z cA cI N M i).heap.size = Z.heap.size + 1 + i ∧ (muB Z cA cI N M i).heap[Z.heap.size]? = some (arrV cA N (muF Z.heap.size i)) ∧ (muB Z cA cI N M i).vm = Z.vm ∧
    (∀ j, j < i → (muB Z cA cI N M i).heap[Z.heap.size + 1 + j]? = some (arrV cI M (fun _ => .int 0))) ∧ ∀ q, q < Z.heap.size → (muB Z cA cI N M i).heap[q]? = Z.heap[q]? := by
  intro i
  induction i with
  | zero =>
    refine ⟨by simp [muB], by simp [muB], rfl, fun j hj => absurd hj (Nat.not_lt_zero j), fun q hq => ?_⟩
    exact State.heap_pushCell_of_lt _ _ hq
  | succ i ih =>
    obtain ⟨a, b, v, n, o⟩ := ih
    have hlt : Z.heap.size < (muB Z cA cI N M i).heap.size := by omega
    have hb : ((muB Z cA cI N M i).pushCell (arrV cI M (fun _ => .int 0))).heap[Z.heap.size]? = some (arrV cA N (muF Z.heap.size i)) := by rw [State.heap_pushCell_of_lt (h := hlt)]; exact b
    refine ⟨?_, State.heap_setCell_self hb, ?_, fun j hj => ?_, fun q hq => ?_⟩
    · simp [muB, State.setCell, a]; omega
    · simp [muB, v]
    · show (((muB Z cA cI N M i).pushCell (arrV cI M (fun _ => .int 0))).setCell Z.heap.size _).heap[Z.heap.size + 1 + j]? = _
      rw [State.heap_setCell_other (show Z.heap.size ≠ Z.heap.size + 1 + j by omega)]
      rcases Nat.lt_or_ge j i with y | y
      · have hl2 : Z.heap.size + 1 + j < (muB Z cA cI N M i).heap.size := by omega
        rw [State.heap_pushCell_of_lt (h := hl2)]; exact n j y
      · obtain rfl : j = i := by omega
        rw [← a]; exact State.heap_pushCell_size _ _
    · show (((muB Z cA cI N M i).pushCell (arrV cI M (fun _ => .int 0))).setCell Z.heap.size _).heap[q]? = _
      have hl2 : q < (muB Z cA cI N M i).heap.size := by omega
      rw [State.heap_setCell_other (show Z.heap.size ≠ q by omega), State.heap_pushCell_of_lt (h := hl2)]; exact o q hq
theorem muB_top (Z : State) (f : JFrame) (cA cI : ClassId) (N M : Nat) : ∀ i, muB (Z.setTop f) cA cI N M i = (muB Z cA cI N M i).setTop f := by
  intro i
  induction i with
  | zero => rfl
  | succ i ih => simp only [muB, ih, State.heap_setTop, State.pushCell_setTop, State.setCell_setTop]
section MU
variable {p : Program} {l : Launch} {e : Env} {R : Room} {s : State} {m : MethodId} {args : Array Value} {below : List Frame} {meth : Method} {c : Code} {T : State} {locs : List Loc} {cells slots : Nat}
theorem muB_stand (X : Stand p l e R s m args below meth c T locs cells slots) (cA cI : ClassId) (N M : Nat) : ∀ i, Stand p l e R s m args below meth c (muB T cA cI N M i) (locs ++ (List.range i).map fun j => ⟨T.heap.size, j⟩) (cells + 1 + i) (slots + N + i * M) := by
  intro i
  induction i with
  | zero =>
    have h := X.pushed (arrV cA N (muF T.heap.size 0))
    rw [arrV_size] at h
    simpa [muB] using h
  | succ i ih =>
    obtain ⟨a, b, -⟩ := muB_facts T cA cI N M i
    have hlt : T.heap.size < (muB T cA cI N M i).heap.size := by omega
    have hb : ((muB T cA cI N M i).pushCell (arrV cI M (fun _ => .int 0))).heap[T.heap.size]? = some (arrV cA N (muF T.heap.size i)) := by rw [State.heap_pushCell_of_lt (h := hlt)]; exact b
    have h := (ih.pushed (arrV cI M (fun _ => .int 0))).stored hb i (.ref (T.heap.size + 1 + i))
    rw [arrV_size, arrV_store, muF_up] at h
    have e2 : (locs ++ (List.range (i + 1)).map fun j => (⟨T.heap.size, j⟩ : Loc)) = (locs ++ (List.range i).map fun j => (⟨T.heap.size, j⟩ : Loc)) ++ [⟨T.heap.size, i⟩] := by simp [List.range_succ, List.append_assoc]
    have e3 : slots + N + (i + 1) * M = slots + N + i * M + M := by rw [Nat.succ_mul]; omega
    rw [e2, e3]
    exact h
end MU
section MUW
variable {E : CtlPost} {e : Env} {d : Bool} {acts : List Action}
/-- the inner rows, one behind another -/
theorem mu_make {Z : State} {cA cI cc : ClassId} {kA kI : Class} {n k : Int32} {N M : Nat} (hN : n.toNatClampNeg = N) (hM : k.toNatClampNeg = M) (hkA : Z.vm.classes[cA]? = some kA) (hA : kA.kind = .array cI (.array .int)) (hkI : Z.vm.classes[cI]? = some kI) (hI : kI.kind = .array cc .int) (hn : ¬ n < 0) (hk : ¬ k < 0)
    (hl1 : ¬ N > e.platform.arrayLengthLimit) (hh1 : ¬ N * componentBytes (.array .int) > e.platform.maxHeapBytes) (hl2 : ¬ M > e.platform.arrayLengthLimit) (hh2 : ¬ M * componentBytes .int > e.platform.maxHeapBytes)
    (room0 : Z.heap.size < e.platform.maxCells ∧ Z.slotsUsed + N ≤ e.platform.maxSlots) (room : ∀ i, i < N → (muB Z cA cI N M i).heap.size < e.platform.maxCells ∧ (muB Z cA cI N M i).slotsUsed + M ≤ e.platform.maxSlots)
    {Q : Addr → Pre} (hq : ∀ d' acts', Q Z.heap.size d' acts' (muB Z cA cI N M N)) : wp (multianewarray.make cA [n, k]) Q E e d acts Z := by
  have hfind : ([k].find? (· < 0)) = none := by simp [hk]
  rw [multianewarray.make]
  simp only [wp_bind', W.ite, hn, if_false, wp_pure', W.theClass, hkA, hA, Option.some.injEq, exists_eq_left']
  refine W.newArray_of hkA hA (by rw [hN]; exact hl1) (by rw [hN]; exact hh1) room0.1 (by rw [hN]; exact room0.2) rfl (fun acts1 => ?_)
  have e0 : (Z.pushCell { cls := cA, slots := Array.replicate n.toNatClampNeg .null } : State) = muB Z cA cI N M 0 := by
    have := arrV_new cA N .null
    rw [hN]
    show Z.pushCell _ = Z.pushCell (arrV cA N (muF Z.heap.size 0))
    rw [show muF Z.heap.size 0 = fun _ => Value.null from funext fun j => if_neg (Nat.not_lt_zero j), ← this]
  rw [e0]
  simp only [hfind]
  rw [ite_self, wp_bind', Std.Legacy.Range.forIn_eq_forIn_range']
  have hsz : ([:n.toNatClampNeg] : Std.Legacy.Range).size = N := by simp [Std.Legacy.Range.size, hN]
  rw [hsz]
  show wp (forIn (List.range' 0 N 1) PUnit.unit _) _ E e d acts1 _
  refine wp_forIn_inv (fun rest s' => ∃ i, i ≤ N ∧ rest = List.range' i (N - i) ∧ s' = muB Z cA cI N M i) _ _ ⟨0, Nat.zero_le _, rfl, rfl⟩ ?_ ?_
  · rintro x rest s' d' acts' Q' ⟨i, hi, hl, rfl⟩ hnext
    have hlt : i < N := by
      rcases Nat.lt_or_ge i N with h | h
      · exact h
      · rw [show N - i = 0 by omega] at hl; simp at hl
    rw [show N - i = (N - (i + 1)) + 1 by omega, List.range'_succ] at hl
    obtain ⟨rfl, hrest⟩ := List.cons.inj hl
    obtain ⟨a, b, v, -, -⟩ := muB_facts Z cA cI N M x
    have hr := room x hlt
    simp only [wp_bind']
    rw [multianewarray.make]
    simp only [wp_bind', W.ite, hk, if_false, wp_pure', W.theClass, v, hkI, hI, Option.some.injEq, exists_eq_left']
    refine W.newArray_of (by rw [v]; exact hkI) hI (by rw [hM]; exact hl2) (by rw [hM]; exact hh2) hr.1 (by rw [hM]; exact hr.2) rfl (fun acts2 => ?_)
    have e1 : ((muB Z cA cI N M x).pushCell { cls := cI, slots := Array.replicate k.toNatClampNeg (defaultValue .int) } : State) = (muB Z cA cI N M x).pushCell (arrV cI M (fun _ => .int 0)) := by
      rw [hM, ← arrV_new cI M (.int 0)]; rfl
    rw [e1]
    have hlt0 : Z.heap.size < (muB Z cA cI N M x).heap.size := by omega
    simp only [wp_bind', W.writeLoc, wp_pure']
    refine ⟨arrV cA N (muF Z.heap.size x), by rw [State.heap_pushCell_of_lt (h := hlt0)]; exact b, by simp [arrV], by rw [arrV_size]; exact hlt, ?_, hnext _ _ _ ⟨x + 1, hlt, hrest, ?_⟩⟩
    · show State.fitsSlot _ cA .none x _ = true
      simp [State.fitsSlot, State.slotType?, v, hkA, hA, fits]
    · rw [a, arrV_store, muF_up]; rfl
  · rintro s' d' acts' ⟨i, hi, hl, rfl⟩
    have hiN : i = N := by
      rcases Nat.lt_or_ge i N with h | h
      · rw [show N - i = (N - (i + 1)) + 1 by omega, List.range'_succ] at hl; cases hl
      · omega
    subst hiN
    simp only [wp_pure']
    exact hq _ _
end MUW
