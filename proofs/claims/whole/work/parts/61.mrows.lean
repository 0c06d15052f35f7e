/-! ===== constructors: rows ===== -/
abbrev zI (ka : Nat → ClassId) (q n : Nat) : Nat × va_E := (q, .inl (ka 10, n, .inl (fun _ => 0)))
abbrev zB (ka : Nat → ClassId) (q n : Nat) : Nat × va_E := (q, .inl (ka 11, n, .inl (fun _ => 0)))
abbrev zR (cA : ClassId) (q n : Nat) (f : Nat → Option Nat) : Nat × va_E := (q, .inl (cA, n, .inr (.inr (.inr (.inr f)))))
abbrev zO (q ci : Nat) (fs : List Value) : Nat × va_E := (q, .inr (ci, fs))
def muW (ka : Nat → ClassId) (q N M : Nat) : va_W := zR (ka 12) q N (fun i => some (q + 1 + i)) :: (List.range N).map (fun i => zI ka (q + 1 + i) M)
theorem muW_inv {ka : Nat → ClassId} {q N M t : Nat} {x : Nat × va_E} (h : (muW ka q N M)[t]? = some x) : (t = 0 ∧ x = zR (ka 12) q N (fun i => some (q + 1 + i))) ∨ ∃ j, j < N ∧ t = j + 1 ∧ x = zI ka (q + 1 + j) M := by
  unfold muW at h
  cases t with
  | zero => cases h; exact Or.inl ⟨rfl, rfl⟩
  | succ j =>
    rw [List.getElem?_cons_succ, List.getElem?_map] at h
    rcases Nat.lt_or_ge j N with y | y
    · rw [List.getElem?_range y] at h
      cases h
      exact Or.inr ⟨j, y, rfl, rfl⟩
    · rw [List.getElem?_eq_none (by rw [List.length_range]; exact y)] at h; cases h
theorem ka10 {D : va_G} {ka : Nat → ClassId} {cA : ClassId} {s : State} (h : va_K D vwCl (tysOf ka ++ [(cA, .int)]) s) : cA = ka 10 := Option.some.inj ((h.2 5 (cA, .int) rfl).2.symm.trans (h.2 0 (ka 10, .int) rfl).2)
theorem ka11 {D : va_G} {ka : Nat → ClassId} {cA : ClassId} {s : State} (h : va_K D vwCl (tysOf ka ++ [(cA, .boolean)]) s) : cA = ka 11 := Option.some.inj ((h.2 5 (cA, .boolean) rfl).2.symm.trans (h.2 1 (ka 11, .boolean) rfl).2)
theorem ka13 {D : va_G} {ka : Nat → ClassId} {cA : ClassId} {s : State} (h : va_K D vwCl (tysOf ka ++ [(cA, .object RX3)]) s) : cA = ka 13 := by
  obtain ⟨-, -, -, -, -, a⟩ := (h.2 5 (cA, .object RX3) rfl).2
  obtain ⟨-, -, -, -, -, b⟩ := (h.2 3 (ka 13, .object RX3) rfl).2
  exact Option.some.inj (a.symm.trans b)
theorem ka14 {D : va_G} {ka : Nat → ClassId} {cA : ClassId} {s : State} (h : va_K D vwCl (tysOf ka ++ [(cA, .object RX5)]) s) : cA = ka 14 := by
  obtain ⟨-, -, -, -, -, a⟩ := (h.2 5 (cA, .object RX5) rfl).2
  obtain ⟨-, -, -, -, -, b⟩ := (h.2 4 (ka 14, .object RX5) rfl).2
  exact Option.some.inj (a.symm.trans b)
section W2
variable {p : Program} {l : Launch} {e : Env} {R : Room} {s : State} {m : MethodId} {args : Array Value} {below : List Frame} {meth : Method} {c : Code} {H : Heap} {locs : List Loc} {cells slots : Nat} {Q : State → Prop}
theorem W_mul2 {cc : ByteArray} {own : String} {index : Nat} {D : va_G} {ka : Nat → ClassId} (hexec : p.tables.exec = Jvm.exec) (hb : c.code = cc) (hown : s.vm.findClass own = some m.cls) (hclink : (Cond.classLink own index "[[I").before args s = true) (hK : va_K D vwCl (tysOf ka) s) (h12 : A12 ka s)
    {g : JFrame} (hg : g.method = m) (hdg : decode cc g.pc = .ok (.multianewarray index 2, 4)) {n k : Int32} {N M : Nat} {rest : List Value} (hstack : g.stack = .int k :: .int n :: rest) (hn : ¬ n < 0) (hk : ¬ k < 0) (hN : n.toNatClampNeg = N) (hM : k.toNatClampNeg = M) (hN1 : N ≤ 1000) (hM1 : M ≤ 1000) (hcells : cells + 1 + N ≤ R.cells) (hslots : slots + N + N * M ≤ R.slots)
    (kk : ∀ (H' : Heap) (L : List Loc), (∀ x ∈ L, x.base = H.size) → H'.size = H.size + 1 + N → H'[H.size]? = some (arrV (ka 12) N (muF H.size N)) → (∀ j, j < N → H'[H.size + 1 + j]? = some (arrV (ka 10) M (fun _ => .int 0))) → (∀ q, q < H.size → H'[q]? = H[q]?) →
      W p l e R s m args below meth c H' (locs ++ L) (cells + 1 + N) (slots + N + N * M) Q { g with pc := g.pc + 4, stack := .ref H.size :: rest }) : W p l e R s m args below meth c H locs cells slots Q g := by
  intro T hT X
  subst hT; subst hb; subst hg
  have hpl : e.platform.magicAccessors = ({} : Platform).magicAccessors := by rw [X.admits.platform]
  obtain ⟨c0, hfc0, hcl⟩ := Cond.classLink_spec hown hclink e.platform hpl
  have hnm : s.vm.findClass "[[I" = some (ka 12) := (hK.2 2 (ka 12, .array .int) rfl).2
  obtain rfl : ka 12 = c0 := Option.some.inj (hnm.symm.trans hfc0)
  obtain ⟨hg₁, hwarm₁, hready₁⟩ := State.classEntry (e := e) X.warmed hcl
  generalize T.vm.noted g.method.cls index (.cls (ka 12)) = vm₁ at hg₁ hwarm₁ hready₁
  have hal : s.vm.Alike vm₁ := hwarm₁.alike
  obtain ⟨kA, hkA, hkindA⟩ := h12
  obtain ⟨-, kI, hkI, cI, hkindI⟩ := (hK.2 0 (ka 10, .int) rfl).1 0 (fun _ => .null)
  obtain ⟨kA₁, hkA₁, heA⟩ := hal.2.2 _ _ hkA
  obtain ⟨kI₁, hkI₁, heI⟩ := hal.2.2 _ _ hkI
  have X₁ := X.noted hwarm₁
  have XF := muB_stand X₁ (ka 12) (ka 10) N M N
  obtain ⟨z1, z2, z3, z4, z5⟩ := muB_facts (T.setVm vm₁) (ka 12) (ka 10) N M N
  obtain ⟨t, a1, b1⟩ := kk (muB (T.setVm vm₁) (ka 12) (ka 10) N M N).heap ((List.range N).map fun j => ⟨T.heap.size, j⟩) (fun x hx => by
    obtain ⟨j, -, rfl⟩ := List.mem_map.mp hx
    rfl) z1 z2 z4 z5 _ rfl XF
  refine ⟨t, ?_, b1⟩
  have hl1 : ¬ N > e.platform.arrayLengthLimit := by rw [Launch.admits_arrayLengthLimit X.admits]; omega
  have hh1 : ¬ N * componentBytes (.array .int) > e.platform.maxHeapBytes := by
    rw [Launch.admits_maxHeapBytes X.admits]; show ¬ N * 4 > 536870912; omega
  have hl2 : ¬ M > e.platform.arrayLengthLimit := by rw [Launch.admits_arrayLengthLimit X.admits]; omega
  have hh2 : ¬ M * componentBytes .int > e.platform.maxHeapBytes := by
    rw [Launch.admits_maxHeapBytes X.admits]; show ¬ M * 4 > 536870912; omega
  obtain ⟨r1, r2⟩ := X.roomAbove (a := 1) (b := N) (by omega) (by have := Nat.zero_le (N * M); omega)
  have eS : ((T.setTop g).setVm vm₁).setTop { g with stack := rest } = (T.setVm vm₁).setTop { g with stack := rest } := by
    show ((T.setVm vm₁).setTop g).setTop _ = _
    rw [State.setTop_setTop]
  jvm_step X.here [hexec, hdg]
  simp only [multianewarray.sem, wp_bind', W.resolveClassAt_links (State.method?_setTop g X.here.top) hg₁]
  rw [W.popN, if_neg (by decide)]
  refine ⟨g, State.topJava?_setTop' (s := T.setVm vm₁) g X.here.top, [.int n, .int k], rest, rfl, hstack, ?_⟩
  simp only [List.mapM_cons, List.mapM_nil, wp_bind', wp_pure']
  rw [eS]
  refine mu_make (kA := kA₁) (kI := kI₁) (cA := ka 12) (cI := ka 10) (cc := cI) hN hM hkA₁ (by rw [heA]; exact hkindA) hkI₁ (by rw [heI]; exact hkindI) hn hk hl1 hh1 hl2 hh2 ⟨by show T.heap.size < _; omega, by show T.slotsUsed + _ ≤ _; exact r2⟩ (fun i hi => ?_) (fun d' acts' => ?_)
  · have hmul : i * M + M ≤ N * M := by
      have := Nat.mul_le_mul_right M (show i + 1 ≤ N from hi)
      rw [Nat.succ_mul] at this; exact this
    obtain ⟨q1, q2⟩ := (muB_stand X₁ (ka 12) (ka 10) N M i).roomAbove (a := 1) (b := M) (by omega) (by omega)
    rw [muB_top]
    exact ⟨by show (muB (T.setVm vm₁) (ka 12) (ka 10) N M i).heap.size < _; omega, q2⟩
  · rw [muB_top]
    simp only [wp_bind', W.mark, W.pushRef, State.topJava?_setTop' _ XF.here.top, Option.some.injEq, exists_eq_left', State.setTop_setTop, State.heap_setTop]
    intro acts
    simp [jvm, XF.here.top]
    exact a1
end W2
