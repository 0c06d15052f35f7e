theorem cl_L_7 : CL RL 7 7 9 [.null, .null, .null, .null, .null, .null, .null, .null, .long 0] := ⟨RX7, TX7, tyX7, rfl, inTX7, tyX7_ok, tbg_t 14 (by decide +kernel) (by decide +kernel), tbg_t 15 (by decide +kernel) (by decide +kernel), tbg_t 1 (by decide +kernel) (by decide +kernel), fun j hj => by rcases (show j = 0 ∨ j = 1 ∨ j = 2 ∨ j = 3 ∨ j = 4 ∨ j = 5 ∨ j = 6 ∨ j = 7 ∨ j = 8 by omega) with rfl | rfl | rfl | rfl | rfl | rfl | rfl | rfl | rfl <;> rfl⟩
theorem ni_L_9 : NI RL 9 yX7_init cX7_init 1 := ⟨Or.inl (tbg_t 16 (by decide +kernel) (by decide +kernel)), tbg_t 18 (by decide +kernel) (by decide +kernel), tbg_t 1 (by decide +kernel) (by decide +kernel), ⟨by decide +kernel, by decide +kernel, by decide +kernel⟩, by decide, rfl, tbg_t 17 (by decide +kernel) (by decide +kernel)⟩
theorem cl_L_10 : CL RL 10 8 26 [.int 0, .null, .null, .null, .null, .int 0, .null, .null, .int 0, .null, .null, .long 0, .null, .int 0, .int 0, .int 0, .int 0, .int 0, .int 0, .int 0, .int 0, .null, .int 0, .null, .null, .null] := ⟨RX8, TX8, tyX8, rfl, inTX8, tyX8_ok, tbg_t 626 (by decide +kernel) (by decide +kernel), tbg_t 627 (by decide +kernel) (by decide +kernel), tbg_t 9 (by decide +kernel) (by decide +kernel), fun j hj => by rcases (show j = 0 ∨ j = 1 ∨ j = 2 ∨ j = 3 ∨ j = 4 ∨ j = 5 ∨ j = 6 ∨ j = 7 ∨ j = 8 ∨ j = 9 ∨ j = 10 ∨ j = 11 ∨ j = 12 ∨ j = 13 ∨ j = 14 ∨ j = 15 ∨ j = 16 ∨ j = 17 ∨ j = 18 ∨ j = 19 ∨ j = 20 ∨ j = 21 ∨ j = 22 ∨ j = 23 ∨ j = 24 ∨ j = 25 by omega) with rfl | rfl | rfl | rfl | rfl | rfl | rfl | rfl | rfl | rfl | rfl | rfl | rfl | rfl | rfl | rfl | rfl | rfl | rfl | rfl | rfl | rfl | rfl | rfl | rfl | rfl <;> rfl⟩
theorem ni_L_12 : NI RL 12 yX8_init cX8_init 2 := ⟨Or.inl (tbg_t 628 (by decide +kernel) (by decide +kernel)), tbg_t 630 (by decide +kernel) (by decide +kernel), tbg_t 9 (by decide +kernel) (by decide +kernel), ⟨by decide +kernel, by decide +kernel, by decide +kernel⟩, by decide, rfl, tbg_t 629 (by decide +kernel) (by decide +kernel)⟩
/-! THE CLAIM OUT OF ONE WALK OF THE LAW'S BODY. Your part is whole_start (and what it stands on); all else here is the same for every law, but numbers. -/
def R_law : String := "TastelessCookLaw"
def lw_P (b : Addr) (xs : List Int32) (args : Array Value) (s : State) : Prop := args = #[.ref b] ∧ s.IntsAt b xs ∧ xs.length ≤ 2048 ∧ (Jvm.Cond.and given_1 narrow_1).before args s = true
def lw_Q (_ : Array Value) (s : State) (o : Outcome) (t : State) : Prop := o = .returned (some (.int 1)) ∧ Framed s o t [] 600000 7302250
def lw_Z (below : List Frame) (a : Array Value) (s : State) : State → Prop := fun t => ∃ o, t.status = .running ∧ Ended t below o ∧ lw_Q a s o t
/-- the law's own end, with 1 on the stack, nothing written that was there before, its room as the claim has it -/
theorem lw_ret {p : Program} {l : Launch} {e : Env} {s : State} {m : MethodId} {below : List Frame} {meth : Method} {c : Code} {b : Nat} (hx : p.tables.exec = Jvm.exec) (hb : c.code = code) (hr : meth.sig.returnType = ret) (hlocks : meth.locks = false) {pc : Nat} {H : Heap} {ls : Array Slot} (hdg : decode code pc = .ok (.ireturn, 1)) : W p l e room_1 s m #[Value.ref b] below meth c H [] 600000 7302250 (lw_Z below #[Value.ref b] s) (F0 m pc ls [.int 1]) := by
  intro T hT X
  obtain ⟨fs, hret, hrun, hended, hW, hframe⟩ := X.leave (v := some (.int 1)) (hlocks := hlocks) (fun h => by rw [hr] at h; cases h)
  have hmeth' : T.vm.method? m = some meth := X.method'
  refine ⟨T.setFrames fs, ?_, .returned (some (.int 1)), hrun, hended, rfl, ⟨_, rfl⟩, hW, hframe⟩
  jvm_step X.here [X.here.top, hx, hb, hdg, hmeth', hr, ret, narrow_b1]
  (try refine ⟨rfl, ?_⟩); (try refine ⟨rfl, ?_⟩)
  first | (intro acts; rw [hret _ acts rfl rfl rfl]) | rw [hret _ _ rfl rfl rfl]
  exact Steps.refl _
/-- what holds at the law's entry: the machine, the code, the tables' words (any of lw_tbl by 'hts w (by decide +kernel)'), the script of L ints xs at the cell b, what the Statement gives of the start (any of its parts by flat_of_before) -/
def lw_At (p : Program) (s : State) (m : MethodId) (meth : Method) (c : Code) (b L : Nat) (xs : Nat → Int32) : Prop :=
  p.tables.exec = Jvm.exec ∧ c.code = code ∧ meth.sig.returnType = ret ∧ c.maxLocals = 4 ∧ s.vm.findClass R_law = some m.cls ∧ (∀ w ∈ lw_tbl, w.before #[Value.ref b] s = true) ∧ va_X b L xs s s.heap ∧ b < s.heap.size ∧ meth.locks = false ∧ (Jvm.Cond.and given_1 narrow_1).before #[Value.ref b] s = true
set_option maxRecDepth 100000 in
set_option maxHeartbeats 4000000 in
/-- THE LAW, from its entry -/
theorem whole_start {p : Program} {e : Env} {s : State} {m : MethodId} {below : List Frame} {meth : Method} {c : Code} (l : Launch) (hflags : l.flags = flags0) {b L : Nat} {xs : Nat → Int32} (hL : L ≤ 2048) (C0 : lw_At p s m meth c b L xs) : W p l e room_1 s m #[Value.ref b] below meth c s.heap [] 0 0 (lw_Z below #[Value.ref b] s) (entryFrame m ([Value.ref b] : List Value).toArray 4) := by
  obtain ⟨hx, hb, hr, hml, hown, hts, hX, hbl, hlocks, hgv⟩ := id C0
  obtain ⟨G, hw, hNW⟩ := start_known hts hgv
  have htb : ∀ w ∈ TBg, w.before #[Value.ref b] s = true := fun w h => hts w (tbg_in h)
  have hown : s.vm.findClass RL = some m.cls := hown
  have hA : ∀ q : Nat, s.heap.size ≤ q → (fun q : Nat => s.heap.size ≤ q) q := fun _ h => h
  have hS0 : va_S (fun q : Nat => s.heap.size ≤ q) s.heap s.heap [] := va_S.rf
  have hP0 : va_P G.1 vwCl [] s.heap := fun k q h => by simp at h
  have hD0 : va_D (fun q : Nat => s.heap.size ≤ q) [] := ⟨fun i j p q h => by simp at h, fun k q h => by simp at h⟩
  have hl := lv_entry ([.ref b]) (n := 4) (Nat.le_of_ble_eq_true rfl)
  rw [lg_entry_eq]
  generalize (lg_sl ([.ref b]) ++ List.replicate (4 - (lg_sl ([.ref b])).length) Slot.unset).toArray = ls at hl ⊢
  have hl : lv_has ls 4 [(0, .ref b)] := hl
  refine vz_new (k := 0) (n := 0) (ws := []) hx hb hml hown htb hw hA hl.1 hP0 hD0 hS0 cl_L_7 ni_L_9 (i_X7 G) (Nat.le_of_ble_eq_true rfl) (Nat.le_of_ble_eq_true rfl) (Nat.le_of_ble_eq_true rfl) (Nat.le_of_ble_eq_true rfl) (Nat.le_of_ble_eq_true rfl) dL_law_0 dL_law_3 dL_law_4 (fun q7 u7 H1 locs1 hu7 hP1 hD1 hS1 => ?_)
  obtain ⟨ad7, e7, rfl⟩ := hu7
  refine lv_astore_n (lv' := [(1, .ref q7), (0, .ref b)]) hx hb dL_law_7 rfl hl (by decide) rfl (fun ls hl => ?_)
  refine vz_new hx hb hml hown htb hw hA hl.1 hP1 hD1 hS1 cl_L_10 ni_L_12 (i_X8 G) (Nat.le_of_ble_eq_true rfl) (Nat.le_of_ble_eq_true rfl) (Nat.le_of_ble_eq_true rfl) (Nat.le_of_ble_eq_true rfl) (Nat.le_of_ble_eq_true rfl) dL_law_8 dL_law_11 dL_law_12 (fun q8 u8 H2 locs2 hu8 hP2 hD2 hS2 => ?_)
  obtain ⟨ad8, e8, rfl⟩ := hu8
  refine lv_astore_n (lv' := [(2, .ref q8), (1, .ref q7), (0, .ref b)]) hx hb dL_law_15 rfl hl (by decide) rfl (fun ls hl => ?_)
  refine lv_iconst (v := 0) hx hb dL_law_16 (by decide) ?_
  refine lv_istore_n (lv' := [(3, .int 0), (2, .ref q8), (1, .ref q7), (0, .ref b)]) hx hb dL_law_17 rfl hl (by decide) rfl (fun ls hl => ?_)
  refine va_forget (fun q hq => hS2.2.2 q hq) ?_
  have hP2 : va_P G.1 vwCl (LX7.map (fun k => (ad7 k, ce G.2.1 ad7 σ0 k)) ++ LX8.map (fun k => (ad8 k, ce G.2.1 ad8 σ0 k))) H2 := hP2
  have hD2 : va_D (fun q : Nat => s.heap.size ≤ q) (LX7.map (fun k => (ad7 k, ce G.2.1 ad7 σ0 k)) ++ LX8.map (fun k => (ad8 k, ce G.2.1 ad8 σ0 k))) := hD2
  obtain ⟨hinj, hAr⟩ := world_inj (t := G.2.2) (b := b) hD2
  have hRp : Rp (G.1, G.2.1, rhoW ad7 ad8 G.2.2 b) σ0 H2 := world_rp hP2
  have hSA : va_S (Ar (rhoW ad7 ad8 G.2.2 b)) s.heap H2 [] := ⟨hS2.1, fun q h1 h2 => hS2.2.1 q h1 (Nat.not_le.mpr h1), fun x hx => by cases hx⟩
  have hWd : Wd (L, xs) (G.1, G.2.1, rhoW ad7 ad8 G.2.2 b) s := ⟨hw.1, hNW, hw.2.2.2.2.2.1.narrow hAr, hw.2.2.2.2.2.2.narrow hAr, hX, hbl, fun z => absurd (hAr _ z) (Nat.not_le.mpr hbl)⟩
  have hLo : Lo (rhoW ad7 ad8 G.2.2 b) ls 4 [.ref 132, .ref 0, .ref 117, .int (nI 0)] := by
    refine ⟨hl.1, hl.2.1, fun i v hi hn => ?_, fun v hv => ?_⟩
    · have h4 : i < 4 := (List.getElem?_eq_some_iff.mp hi).1
      rcases (show i = 0 ∨ i = 1 ∨ i = 2 ∨ i = 3 by omega) with rfl | rfl | rfl | rfl
      · cases hi; exact lv_at hl 3 rfl
      · cases hi; rw [show tv (rhoW ad7 ad8 G.2.2 b) (.ref 0) = .ref q7 from congrArg Value.ref e7]; exact lv_at hl 2 rfl
      · cases hi; rw [show tv (rhoW ad7 ad8 G.2.2 b) (.ref 117) = .ref q8 from congrArg Value.ref e8]; exact lv_at hl 1 rfl
      · cases hi; exact lv_at hl 0 rfl
    · simp only [List.mem_cons, List.not_mem_nil, or_false] at hv
      rcases hv with rfl | rfl | rfl | rfl <;> rfl
  refine l_law (S := (L, xs)) hL (Q := fun r _ => r = some (.int 1)) (fun _ => rfl) 512 0 (by show L < 0 + 4 * 512 + 4; omega) (Nat.zero_le _) σ0 s0_li (G.1, G.2.1, rhoW ad7 ad8 G.2.2 b) p l e room_1 s m _ below meth c _ _ _ ⟨hx, hb, hml, hown, htb, hinj, hWd, (Nat.le_of_ble_eq_true rfl), (Nat.le_of_ble_eq_true rfl), (Nat.le_of_ble_eq_true rfl), (Nat.le_of_ble_eq_true rfl), fun r σ' H' locs' pc' lsA' hQ hR' hS' hret => ?_⟩ H2 [] ls hRp hSA hLo
  obtain rfl := hQ
  have hdec : decode code pc' = .ok (.ireturn, 1) := by
    rcases hret with ⟨h, -⟩ | ⟨v, ty, -, -, -, h4⟩ | ⟨v, h1, -⟩
    · cases h
    · exact h4
    · cases h1
  refine va_forget (fun q hq => hAr _ (hS'.2.2 q hq)) ?_
  refine W.widen (k := 600000) (n := 7302250) (Nat.le_of_ble_eq_true rfl) (Nat.le_of_ble_eq_true rfl) ?_
  exact lw_ret hx hb hr hlocks hdec
