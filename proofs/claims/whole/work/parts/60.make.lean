/-! ===== constructors: a judgement over worlds that grow ===== -/
/-- the classes' numbers, the array classes, where LIMITS lies -/
abbrev Gk : Type := va_G × (Nat → ClassId) × Nat
def NWI : List Cond := [.fieldLinkNest RX6 15 RX7 "LIMITS" "[I" RX7, .methodLinkNest RX7 9 yX6_init RX7, .methodLinkNest RX0 24 yX5_init RX7, .methodLinkNest RX7 25 yX3_init RX7, .methodLinkNest RX1 17 yX3_init RX7, .methodLinkNest RX7 47 yX4_init RX7, .methodLinkNest RX4 22 yX5_init RX7, .methodLinkNest RX7 54 yX2_init RX7, .methodLinkNest RX2 33 yX3_init RX7]
theorem nwi_tab : ∀ w ∈ NWI, w.onTables = true := by decide +kernel
theorem nwi_warm {s U : State} (hW : s.WarmedH U.vm) (h : ∀ w ∈ NWI, va_Nw w s) : ∀ w ∈ NWI, va_Nw w U := by
  intro w hw
  have h0 := h w hw
  simp only [NWI, List.mem_cons, List.not_mem_nil, or_false] at hw
  rcases hw with rfl | rfl | rfl | rfl | rfl | rfl | rfl | rfl | rfl
  · exact va_Nw.warmF hW h0
  all_goals exact va_Nw.warmM hW h0
def A12 (ka : Nat → ClassId) (U : State) : Prop := ∃ k : Class, U.vm.classes[ka 12]? = some k ∧ k.kind = .array (ka 10) (.array .int)
theorem A12.moved {ka : Nat → ClassId} {u U : State} (hvm : u.vm.Alike U.vm) (h : A12 ka u) : A12 ka U := by
  obtain ⟨k, h1, h2⟩ := h
  obtain ⟨k', h3, h4⟩ := hvm.2.2 _ _ h1
  exact ⟨k', h3, by rw [h4]; exact h2⟩
def Wk (G : Gk) (A : Nat → Prop) (U : State) : Prop := va_K G.1 vwCl (tysOf G.2.1) U ∧ (∀ w ∈ NWI, va_Nw w U) ∧ va_AO RX3 U ∧ va_AO RX5 U ∧ A12 G.2.1 U ∧ va_Z RX7 "LIMITS" "[I" (.ref G.2.2) A U U.heap ∧ va_T .int G.2.2 6 limV A U U.heap
theorem Wk.on {G : Gk} {A B : Nat → Prop} {s U : State} {H : Heap} {locs : List Loc} (h : Wk G A s) (hS : va_S A s.heap H locs) (hU : U.heap = H) (hW : s.WarmedH U.vm) (hB : ∀ q, B q → A q) : Wk G B U := by
  obtain ⟨h1, h2, h3, h4, h5, h6, h7⟩ := h
  have hq : ∀ a : Nat, a < s.heap.size → ¬ A a → U.heap[a]? = s.heap[a]? := fun a ha hn => by rw [hU]; exact hS.2.1 a ha hn
  exact ⟨h1.moved hW.alike, nwi_warm hW h2, h3.moved hW.alike, h4.moved hW.alike, h5.moved hW.alike, ((h6.moved hW.alike).kept hq).narrow hB, ((h7.moved hW.alike).kept hq).narrow hB⟩
theorem Wk.calling {G : Gk} {A : Nat → Prop} {U : State} {g : JFrame} {mk : MethodId} {a : Array Value} (h : Wk G A U) : Wk G A (U.calling g mk a) := by
  obtain ⟨h1, h2, h3, h4, h5, h6, h7⟩ := h
  exact ⟨va_K.moved (u := U) (U := U.calling g mk a) (Vm.Alike.refl U.vm) h1, fun w hw => va_Nw.same (nwi_tab w hw) (u := U) (U := U.calling g mk a) rfl (h2 w hw), va_AO.moved (u := U) (U := U.calling g mk a) (Vm.Alike.refl U.vm) h3, va_AO.moved (u := U) (U := U.calling g mk a) (Vm.Alike.refl U.vm) h4, A12.moved (u := U) (U := U.calling g mk a) (Vm.Alike.refl U.vm) h5, va_Z.moved (u := U) (U := U.calling g mk a) (Vm.Alike.refl U.vm) h6, va_T.moved (u := U) (U := U.calling g mk a) (Vm.Alike.refl U.vm) h7⟩
def rmI (d mc ms : Nat) : Room := { frames := d, cells := mc, slots := ms, locals := 36 * d }
abbrev w1I (h0 ci : Nat) (fs : List Value) : va_W := [(h0, .inr (ci, fs))]
def PcI (G : Gk) (h0 ci : Nat) (fs : List Value) (sz : Nat) : Array Value → State → Prop := va_Pc [.ref h0] (fun U => U.heap.size = sz ∧ Wk G (va_A (w1I h0 ci fs) sz) U ∧ va_P G.1 vwCl (w1I h0 ci fs) U.heap)
def QcI (G : Gk) (h0 ci : Nat) (fs : List Value) (sz : Nat) (Pst : va_W → Prop) : Array Value → State → Outcome → State → Prop := va_Qv Pst (fun w t => va_P G.1 vwCl w t.heap ∧ va_D (va_A (w1I h0 ci fs) sz) w) (va_A (w1I h0 ci fs) sz)
/-- a constructor's contract: out of the blank object it makes the world -/
def MtI (G : Gk) (y : MethodName) (cc : ByteArray) (nL d mc ms ci : Nat) (fs : List Value) (Pst : Nat → va_W → Prop) : Prop :=
  ∀ (l : Launch) (h0 sz : Nat), Met l y (wsM y cc nL none) (rmI d mc ms) (PcI G h0 ci fs sz) (QcI G h0 ci fs sz (Pst h0)) mc ms (va_A (w1I h0 ci fs) sz)
theorem pcI_blind {G : Gk} {h0 ci : Nat} {fs : List Value} {sz : Nat} : FrameBlind (PcI G h0 ci fs sz) := fun a U g mk q => ⟨q.1, q.2.1, q.2.2.1.calling, q.2.2.2⟩
def FxI (G : Gk) (own : String) (cc : ByteArray) (nL d mc ms : Nat) (Q : va_W → Prop) (A : Nat → Prop) (p : Program) (l : Launch) (e : Env) (R : Room) (s : State) (m : MethodId) (args : Array Value) (below : List Frame) (meth : Method) (c : Code) (QQ : State → Prop) : Prop :=
  p.tables.exec = Jvm.exec ∧ c.code = cc ∧ c.maxLocals = nL ∧ s.vm.findClass own = some m.cls ∧ (∀ w ∈ TBg, w.before args s = true) ∧ Wk G A s ∧ meth.name = "<init>" ∧ d ≤ R.frames ∧ 36 * d ≤ R.locals ∧ mc ≤ R.cells ∧ ms ≤ R.slots ∧ (∀ q, s.heap.size ≤ q → A q) ∧
  ∀ (ws' : va_W) (H' : Heap) (locs' : List Loc) (pc' : Nat) (lsA' : Array Slot), Q ws' → va_P G.1 vwCl ws' H' → va_D A ws' → va_S A s.heap H' locs' → decode cc pc' = .ok (.return_, 1) → W p l e R s m args below meth c H' locs' mc ms QQ (F0 m pc' lsA' [])
def EvI (G : Gk) (own : String) (cc : ByteArray) (nL d mc ms pc : Nat) (ls st : List Value) (ws : va_W) (k n : Nat) (Q : va_W → Prop) : Prop :=
  ∀ (A : Nat → Prop) (p : Program) (l : Launch) (e : Env) (R : Room) (s : State) (m : MethodId) (args : Array Value) (below : List Frame) (meth : Method) (c : Code) (QQ : State → Prop), FxI G own cc nL d mc ms Q A p l e R s m args below meth c QQ →
    ∀ (H : Heap) (locs : List Loc) (lsA : Array Slot), va_P G.1 vwCl ws H → va_D A ws → va_S A s.heap H locs → Lo id lsA nL ls → W p l e R s m args below meth c H locs k n QQ (F0 m pc lsA st)
theorem mi_of {G : Gk} {y : MethodName} {cc : ByteArray} {nL d mc ms ci : Nat} {fs : List Value} {Pst : Nat → va_W → Prop} (hy : plainName y.cls = true) (hnm : y.name = "<init>") (hL : 1 ≤ nL) (h : ∀ h0, EvI G y.cls cc nL d mc ms 0 (.ref h0 :: List.replicate (nL - 1) .null) [] (w1I h0 ci fs) 0 0 (Pst h0)) : MtI G y cc nL d mc ms ci fs Pst := by
  intro l h0 sz
  refine Met.ofW (cc := cc) (maxL := nL) (ret := none) hy rfl ?_
  intro p e s m args below meth c s₁ B hml hv
  obtain ⟨rfl, hsz, hw, hP⟩ := hv
  have hr := B.returns
  have hlocks := B.notSynchronized
  have hts0 := atoms_spec (ws := wsM y cc nL none) B.pre
  have hin : meth.name = "<init>" := (name_of_methodNamed B.named B.method).1.trans hnm
  subst hsz
  have hD0 : va_D (fun _ => True) (w1I h0 ci fs) := ⟨fun i j p q h1 h2 _ => by
    have a := (List.getElem?_eq_some_iff.mp h1).1
    have b := (List.getElem?_eq_some_iff.mp h2).1
    simp at a b; omega, fun _ _ _ => trivial⟩
  have hD := hD0.self (sz := s.heap.size)
  have hl := lv_entry ([.ref h0]) (n := nL) hL
  rw [lg_entry_eq]
  generalize (lg_sl ([.ref h0]) ++ List.replicate (nL - (lg_sl ([.ref h0])).length) Slot.unset).toArray = lsA at hl ⊢
  have hLo : Lo id lsA nL (.ref h0 :: List.replicate (nL - 1) .null) := by
    refine ⟨hl.1, hl.2.1, fun i v hi hn => ?_, fun v hv => ?_⟩
    · cases i with
      | zero => cases hi; exact hl.2.2 (0, .ref h0) List.mem_cons_self
      | succ i =>
        rw [List.getElem?_cons_succ] at hi
        exact absurd (List.eq_of_mem_replicate (List.mem_of_getElem? hi)) hn
    · rcases List.mem_cons.mp hv with q | q
      · rw [q]; rfl
      · rw [List.eq_of_mem_replicate q]; rfl
  refine h h0 (va_A (w1I h0 ci fs) s.heap.size) p l e _ s m _ below meth c _ ⟨B.exec, B.bytes, hml, findClass_of_methodNamed B.named, fun w hw => hts0 w (List.mem_cons_of_mem _ hw), hw, hin, Nat.le_refl _, Nat.le_refl _, Nat.le_refl _, Nat.le_refl _, fun q hq => Or.inr hq, ?_⟩ s.heap [] lsA hP hD va_S.rf hLo
  intro ws' H' locs' pc' lsA' hQ hP' hD' hS' hdec
  exact W.vret B.exec B.bytes hr (fun t ht hW => ⟨⟨ws', rfl, hQ, by rw [ht]; exact hP', hD'⟩, hS'.F ht⟩) hS'.2.2 hdec hlocks
/-! what a 'new' names, and the constructor behind it -/
def CL (own : String) (idx ci N : Nat) (fs : List Value) : Prop := ∃ (C : String) (T : u_T) (ty0 : Nat → FieldType), vwCl[ci]? = some (C, T, N) ∧ (∀ w ∈ u_ws C T N, w ∈ TBg) ∧ (∀ k, k < N → parseFieldDescriptor (T k).2.2.1 = some (ty0 k)) ∧ Cond.classLink own idx C ∈ TBg ∧ Cond.instantiable C N ∈ TBg ∧ Cond.initialized C ∈ TBg ∧ ∀ j, j < N → defaultValue (ty0 j) = vp_V fs j
def NI (own : String) (idx : Nat) (y : MethodName) (b : ByteArray) (mL : Nat) : Prop := (Cond.methodLink own idx y ∈ TBg ∨ Cond.methodLinkNest own idx y RX7 ∈ NWI) ∧ Cond.code y b mL none ∈ TBg ∧ Cond.initialized y.cls ∈ TBg ∧ (y.cls ≠ "java/lang/invoke/MethodHandle" ∧ y.cls ≠ "java/lang/invoke/VarHandle" ∧ (parseMethodDescriptor y.desc).map (fun d => d.parameters.length) = some 0) ∧ mL ≤ 17 ∧ y.name = "<init>" ∧ Cond.instanceMethod y ∈ TBg
theorem vz_join {D : va_G} {A B : Nat → Prop} {ws u : va_W} {x : Nat × va_E} {H1 H2 : Heap} (hP : va_P D vwCl (ws ++ [x]) H1) (hD : va_D A (ws ++ [x])) (hB : ∀ q, B q ↔ (q = x.1 ∨ H1.size ≤ q)) (hBA : ∀ q, B q → A q) (hk : ∀ q : Nat, q < H1.size → ¬ B q → H2[q]? = H1[q]?) (hP1 : va_P D vwCl u H2) (hD1 : va_D B u) : va_P D vwCl (ws ++ u) H2 ∧ va_D A (ws ++ u) := by
  have at1 : ∀ (i : Nat) (p : Nat × va_E), ws[i]? = some p → (ws ++ [x])[i]? = some p := fun i p h => by
    rw [List.getElem?_append_left (List.getElem?_eq_some_iff.mp h).1]; exact h
  have hx : (ws ++ [x])[ws.length]? = some x := by simp
  have ap : ∀ (i : Nat) (p : Nat × va_E), ws[i]? = some p → p.1 < H1.size ∧ p.1 ≠ x.1 := fun i p h => by
    refine ⟨(hP i p (at1 i p h)).lt, fun z => ?_⟩
    have := hD.1 i ws.length p x (at1 i p h) hx z
    have := (List.getElem?_eq_some_iff.mp h).1
    omega
  have hPw : va_P D vwCl ws H2 := va_P.kept (H := H1) (fun k q h => hP k q (at1 k q h)) (fun k q h => by
    obtain ⟨a1, a2⟩ := ap k q h
    exact hk q.1 a1 (fun z => by rcases (hB _).mp z with y | y; exact a2 y; omega))
  refine ⟨hPw.app hP1, va_D.app ⟨fun i j p q h1 h2 => hD.1 i j p q (at1 i p h1) (at1 j q h2), fun k q h => hD.2 k q (at1 k q h)⟩ (hD1.weaken (fun k q _ hb => hBA _ hb)) (fun i j p q h1 h2 z => ?_)⟩
  obtain ⟨a1, a2⟩ := ap i p h1
  rcases (hB _).mp (hD1.2 j q h2) with y | y
  · exact a2 (z.trans y)
  · omega
section VZ
variable {p : Program} {l : Launch} {e : Env} {R : Room} {s : State} {m : MethodId} {args : Array Value} {below : List Frame} {meth : Method} {c : Code} {H : Heap} {locs : List Loc} {k n : Nat} {QQ : State → Prop} {cc : ByteArray} {pc : Nat} {lsA : Array Slot} {rest : List Value} {A : Nat → Prop} {G : Gk} {ws : va_W} {own : String} {nL : Nat}
/-- new C; dup; invokespecial C.<init> -/
theorem vz_new {idx idx2 ci N mL d' mc' ms' : Nat} {fs : List Value} {y : MethodName} {b : ByteArray} {Pst : Nat → va_W → Prop} (hx : p.tables.exec = Jvm.exec) (hb : c.code = cc) (hml : c.maxLocals = nL) (hown : s.vm.findClass own = some m.cls) (hts : ∀ w ∈ TBg, w.before args s = true) (hw : Wk G A s) (hA : ∀ q, s.heap.size ≤ q → A q) (hls : lsA.size = nL)
    (hP : va_P G.1 vwCl ws H) (hD : va_D A ws) (hS : va_S A s.heap H locs) (hC : CL own idx ci N fs) (hI : NI own idx2 y b mL) (hM : MtI G y b mL d' mc' ms' ci fs Pst) (hfr : d' + 1 ≤ R.frames) (hlo : 8 + (mL + 11) + 36 * d' ≤ R.locals) (hce : k + 1 + mc' ≤ R.cells) (hsl : n + N + ms' ≤ R.slots) (h8 : (rest.map fun v => v.category).sum ≤ 7)
    (hd0 : decode cc pc = .ok (.new idx, 3)) (hd1 : decode cc (pc + 3) = .ok (.dup, 1)) (hd2 : decode cc (pc + 4) = .ok (.invokespecial idx2, 3))
    (kk : ∀ (q : Nat) (u : va_W) (H1 : Heap) (locs1 : List Loc), Pst q u → va_P G.1 vwCl (ws ++ u) H1 → va_D A (ws ++ u) → va_S A s.heap H1 locs1 → W p l e R s m args below meth c H1 locs1 (k + 1 + mc') (n + N + ms') QQ (F0 m (pc + 7) lsA (.ref q :: rest))) : W p l e R s m args below meth c H locs k n QQ (F0 m pc lsA rest) := by
  obtain ⟨C, T, ty0, f1, f2, f3, f4, f5, f6, f7⟩ := hC
  obtain ⟨i1, i2, i3, i4, i5, i6, i7⟩ := hI
  refine va_new (ci := ci) (fs := fs) (C := C) (T := T) (N := N) hx hb hts f2 ty0 f3 hown (hts _ f4) (hts _ f5) (hts _ f6) hw.1 hP hD hS hA f1 f7 (by omega) (by omega) hd0 (fun q H1 hP hD hS => ?_)
  refine lv_dup hx hb hd1 rfl ?_
  have hat : (ws ++ [(q, (.inr (ci, fs) : va_E))])[ws.length]? = some (q, .inr (ci, fs)) := by simp
  have hFc : ∀ x, va_A (w1I q ci fs) H1.size x → A x := va_free hD hS hA [ws.length] (by simp)
  have hPc : va_P G.1 vwCl (w1I q ci fs) H1 := by
    intro j x hj
    have hz : j < 1 := (List.getElem?_eq_some_iff.mp hj).1
    rw [show j = 0 by omega] at hj
    cases hj
    exact hP _ _ hat
  have pre : PreS s H1 (PcI G q ci fs H1.size) [.ref q] := ⟨pcI_blind, fun U hU hW => ⟨rfl, by rw [hU], hw.on hS hU hW hFc, by rw [hU]; exact hPc⟩⟩
  have run : va_Run p l e R s m args below meth c H1 locs (k + 1) (n + N) mc' ms' (F0 m (pc + 4) lsA (.ref q :: .ref q :: rest)) (.ref q :: rest) (QcI G q ci fs H1.size (Pst q) [Value.ref q].toArray) (va_A (w1I q ci fs) H1.size) := by
    have h9 : ((Value.ref q :: rest).map fun v => v.category).sum ≤ 8 := by
      rw [List.map_cons, List.sum_cons]
      show 1 + _ ≤ 8
      omega
    rcases i1 with i1 | i1
    · exact va_runI (As := []) (rest := .ref q :: rest) ⟨hx, hb, hml, hown, hts⟩ (hM l q H1.size) (cwI 0 hts (good_wsM i2) rfl rfl rfl (hts _ i3) (hts _ i1) (hts _ i7) i6 i4 ⟨hfr, hlo⟩) pre rfl rfl hls rfl (lv_room h9) hd2 ⟨by omega, by omega⟩
    · exact va_runIN (As := []) (rest := .ref q :: rest) (host := RX7) ⟨hx, hb, hml, hown, hts⟩ (hM l q H1.size) ⟨va_cnB 0 hts (good_wsM i2) rfl rfl rfl (hw.2.1 _ i1) (hts _ i3) i4 ⟨hfr, hlo⟩, i6, hts _ i7⟩ pre rfl rfl hls rfl (lv_room h9) hd2 ⟨by omega, by omega⟩
  refine va_callv run hS (fun x _ h => hFc x h) hFc (fun u t H2 locs2 ht hvm hu hB hz1 hk1 hS2 => ?_)
  obtain ⟨hP1, hD1⟩ := hB
  rw [ht] at hP1
  have hBi : ∀ x, va_A (w1I q ci fs) H1.size x ↔ (x = q ∨ H1.size ≤ x) := fun x => ⟨fun h => by
    rcases h with ⟨j, ee, h⟩ | h
    · have hz : j < 1 := (List.getElem?_eq_some_iff.mp h).1
      rw [show j = 0 by omega] at h
      cases h
      exact Or.inl rfl
    · exact Or.inr h, fun h => by
    rcases h with rfl | h
    · exact Or.inl ⟨0, _, rfl⟩
    · exact Or.inr h⟩
  obtain ⟨hP3, hD3⟩ := vz_join hP hD hBi hFc hk1 hP1 hD1
  exact kk q u H2 locs2 hu hP3 hD3 hS2
end VZ
