/-! ===== constructors: the judgement's rows ===== -/
theorem fun_refs {cA : ClassId} {N : Nat} {f g : Nat → Option Nat} (h : ∀ i, i < N → f i = g i) : vp_cell cA (N, .inr (.inr (.inr (.inr f)))) = vp_cell cA (N, .inr (.inr (.inr (.inr g)))) := by
  rw [vp_cell_q, vp_cell_q]
  have e : (Array.ofFn (n := N) fun j => va_rf (f j.val)) = Array.ofFn (n := N) fun j => va_rf (g j.val) := by
    congr 1
    funext j
    rw [h j.val j.isLt]
  unfold arrV
  rw [e]
theorem fun_ints {cA : ClassId} {N : Nat} {f g : Nat → Int32} (h : ∀ i, i < N → f i = g i) : vp_cell cA (N, .inl f) = vp_cell cA (N, .inl g) := by
  rw [vp_cell_i, vp_cell_i]
  have e : (Array.ofFn (n := N) fun j => Value.int (f j.val)) = Array.ofFn (n := N) fun j => Value.int (g j.val) := by
    congr 1
    funext j
    rw [h j.val j.isLt]
  unfold arrV
  rw [e]
def FR (own : String) (idx c j N : Nat) : Prop := ∃ (C : String) (T : u_T) (ty0 : Nat → FieldType), vwCl[c]? = some (C, T, N) ∧ (∀ w ∈ u_ws C T N, w ∈ TBg) ∧ j < N ∧ Cond.fieldLink own idx C (T j).2.1 (T j).2.2.1 ∈ TBg ∧ (∀ k, k < N → parseFieldDescriptor (T k).2.2.1 = some (ty0 k)) ∧ (∀ a, a < N → ∀ b, b < N → a ≠ b → (T a).2.1 ≠ (T b).2.1) ∧ (T j).1 = C ∧ C = own ∧ (T j).2.2.2 = true ∧ (∀ q, narrow (ty0 j) (.ref q) = .ref q) ∧ ∀ q, fits (ty0 j) (.ref q) = true
section EI
variable {G : Gk} {own : String} {cc : ByteArray} {nL d mc ms pc : Nat} {ls st : List Value} {ws : va_W} {k n : Nat} {Q : va_W → Prop}
theorem ei_aload0 {x : Nat} {t : List Value} (hd : decode cc pc = .ok (.aload_n 0, 1)) (kk : EvI G own cc nL d mc ms (pc + 1) (.ref x :: t) (.ref x :: st) ws k n Q) : EvI G own cc nL d mc ms pc (.ref x :: t) st ws k n Q := by
  intro A p l e R s m args below meth c QQ F H locs lsA hP hD hS hL
  obtain ⟨hx, hb, hml, hown, hts, hw, hin, hfr, hlo, hce, hsl, hA, hq⟩ := id F
  exact lv_aload_n hx hb hd rfl (hL.at (i := 0) (v := .ref x) rfl (fun z => by cases z)) (kk A p l e R s m args below meth c QQ F H locs lsA hP hD hS hL)
theorem ei_iconst {n0 : Int} {v : Int32} (hd : decode cc pc = .ok (.iconst n0, 1)) (hv : Int32.ofInt n0 = v) (kk : EvI G own cc nL d mc ms (pc + 1) ls (.int v :: st) ws k n Q) : EvI G own cc nL d mc ms pc ls st ws k n Q := by
  intro A p l e R s m args below meth c QQ F H locs lsA hP hD hS hL
  obtain ⟨hx, hb, hml, hown, hts, hw, hin, hfr, hlo, hce, hsl, hA, hq⟩ := id F
  exact lv_iconst hx hb hd hv (kk A p l e R s m args below meth c QQ F H locs lsA hP hD hS hL)
theorem ei_bipush {n0 : Int} {v : Int32} (hd : decode cc pc = .ok (.bipush n0, 2)) (hv : (Int8.ofInt n0).toInt32 = v) (kk : EvI G own cc nL d mc ms (pc + 2) ls (.int v :: st) ws k n Q) : EvI G own cc nL d mc ms pc ls st ws k n Q := by
  intro A p l e R s m args below meth c QQ F H locs lsA hP hD hS hL
  obtain ⟨hx, hb, hml, hown, hts, hw, hin, hfr, hlo, hce, hsl, hA, hq⟩ := id F
  exact lv_bipush hx hb hd hv (kk A p l e R s m args below meth c QQ F H locs lsA hP hD hS hL)
theorem ei_sipush {n0 : Int} {v : Int32} (hd : decode cc pc = .ok (.sipush n0, 3)) (hv : (Int16.ofInt n0).toInt32 = v) (kk : EvI G own cc nL d mc ms (pc + 3) ls (.int v :: st) ws k n Q) : EvI G own cc nL d mc ms pc ls st ws k n Q := by
  intro A p l e R s m args below meth c QQ F H locs lsA hP hD hS hL
  obtain ⟨hx, hb, hml, hown, hts, hw, hin, hfr, hlo, hce, hsl, hA, hq⟩ := id F
  exact lv_sipush hx hb hd hv (kk A p l e R s m args below meth c QQ F H locs lsA hP hD hS hL)
theorem ei_istore1 {a0 z : Value} {t : List Value} {x : Int32} (hd : decode cc pc = .ok (.istore_n 1, 1)) (hn : 1 < nL) (kk : EvI G own cc nL d mc ms (pc + 1) (a0 :: .int x :: t) st ws k n Q) : EvI G own cc nL d mc ms pc (a0 :: z :: t) (.int x :: st) ws k n Q := by
  intro A p l e R s m args below meth c QQ F H locs lsA hP hD hS hL
  obtain ⟨hx, hb, hml, hown, hts, hw, hin, hfr, hlo, hce, hsl, hA, hq⟩ := id F
  exact lv_istore_n hx hb hd rfl hL.has hn rfl (fun lsB hB => kk A p l e R s m args below meth c QQ F H locs lsB hP hD hS (hL.store (i := 1) (v := .int x) rfl hB))
theorem ei_iload1 {a0 : Value} {t : List Value} {x : Int32} (hd : decode cc pc = .ok (.iload_n 1, 1)) (kk : EvI G own cc nL d mc ms (pc + 1) (a0 :: .int x :: t) (.int x :: st) ws k n Q) : EvI G own cc nL d mc ms pc (a0 :: .int x :: t) st ws k n Q := by
  intro A p l e R s m args below meth c QQ F H locs lsA hP hD hS hL
  obtain ⟨hx, hb, hml, hown, hts, hw, hin, hfr, hlo, hce, hsl, hA, hq⟩ := id F
  exact lv_iload_n hx hb hd rfl (hL.at (i := 1) (v := .int x) rfl (fun z => by cases z)) (kk A p l e R s m args below meth c QQ F H locs lsA hP hD hS hL)
theorem ei_iinc1 {a0 : Value} {t : List Value} {n0 : Int} {x v : Int32} (hd : decode cc pc = .ok (.iinc 1 n0, 3)) (hv : x + Int32.ofInt n0 = v) (hn : 1 < nL) (kk : EvI G own cc nL d mc ms (pc + 3) (a0 :: .int v :: t) st ws k n Q) : EvI G own cc nL d mc ms pc (a0 :: .int x :: t) st ws k n Q := by
  intro A p l e R s m args below meth c QQ F H locs lsA hP hD hS hL
  obtain ⟨hx, hb, hml, hown, hts, hw, hin, hfr, hlo, hce, hsl, hA, hq⟩ := id F
  obtain ⟨j, hj⟩ := List.getElem?_of_mem (lvl_mem (ρ := id) (ls := a0 :: .int x :: t) (i := 1) (v := .int x) rfl (fun z => by cases z))
  exact lv_iinc hx hb hd hL.has hj hv hn rfl (fun lsB hB => kk A p l e R s m args below meth c QQ F H locs lsB hP hD hS (hL.store (i := 1) (v := .int v) rfl hB))
theorem ei_goto {off : Int} {tgt : Nat} (hd : decode cc pc = .ok (.goto off, 3)) (ht : (pc : Int) + off = (tgt : Int)) (kk : EvI G own cc nL d mc ms tgt ls st ws k n Q) : EvI G own cc nL d mc ms pc ls st ws k n Q := by
  intro A p l e R s m args below meth c QQ F H locs lsA hP hD hS hL
  obtain ⟨hx, hb, hml, hown, hts, hw, hin, hfr, hlo, hce, hsl, hA, hq⟩ := id F
  exact lv_goto hx hb hd ht (kk A p l e R s m args below meth c QQ F H locs lsA hP hD hS hL)
theorem ei_geY {x y : Int32} {off : Int} {tgt : Nat} (hd : decode cc pc = .ok (.if_icmp .ge off, 3)) (ht : (pc : Int) + off = (tgt : Int)) (h : y ≤ x) (kk : EvI G own cc nL d mc ms tgt ls st ws k n Q) : EvI G own cc nL d mc ms pc ls (.int y :: .int x :: st) ws k n Q := by
  intro A p l e R s m args below meth c QQ F H locs lsA hP hD hS hL
  obtain ⟨hx, hb, hml, hown, hts, hw, hin, hfr, hlo, hce, hsl, hA, hq⟩ := id F
  exact lv_icmp_ge hx hb hd ht (fun _ => kk A p l e R s m args below meth c QQ F H locs lsA hP hD hS hL) (fun z => absurd h z)
theorem ei_geN {x y : Int32} {off : Int} {tgt : Nat} (hd : decode cc pc = .ok (.if_icmp .ge off, 3)) (ht : (pc : Int) + off = (tgt : Int)) (h : ¬ y ≤ x) (kk : EvI G own cc nL d mc ms (pc + 3) ls st ws k n Q) : EvI G own cc nL d mc ms pc ls (.int y :: .int x :: st) ws k n Q := by
  intro A p l e R s m args below meth c QQ F H locs lsA hP hD hS hL
  obtain ⟨hx, hb, hml, hown, hts, hw, hin, hfr, hlo, hce, hsl, hA, hq⟩ := id F
  exact lv_icmp_ge hx hb hd ht (fun z => absurd z h) (fun _ => kk A p l e R s m args below meth c QQ F H locs lsA hP hD hS hL)
theorem ei_dup {v : Value} (hd : decode cc pc = .ok (.dup, 1)) (hc : v.category = 1) (kk : EvI G own cc nL d mc ms (pc + 1) ls (v :: v :: st) ws k n Q) : EvI G own cc nL d mc ms pc ls (v :: st) ws k n Q := by
  intro A p l e R s m args below meth c QQ F H locs lsA hP hD hS hL
  obtain ⟨hx, hb, hml, hown, hts, hw, hin, hfr, hlo, hce, hsl, hA, hq⟩ := id F
  exact lv_dup hx hb hd hc (kk A p l e R s m args below meth c QQ F H locs lsA hP hD hS hL)
theorem ei_iadd {x y v : Int32} (hd : decode cc pc = .ok (.iadd, 1)) (hv : x + y = v) (kk : EvI G own cc nL d mc ms (pc + 1) ls (.int v :: st) ws k n Q) : EvI G own cc nL d mc ms pc ls (.int y :: .int x :: st) ws k n Q := by
  intro A p l e R s m args below meth c QQ F H locs lsA hP hD hS hL
  obtain ⟨hx, hb, hml, hown, hts, hw, hin, hfr, hlo, hce, hsl, hA, hq⟩ := id F
  subst hv
  exact lv_iadd hx hb hd (kk A p l e R s m args below meth c QQ F H locs lsA hP hD hS hL)
theorem ei_obj {idx x : Nat} (hd : decode cc pc = .ok (.invokespecial idx, 3)) (h1 : Cond.methodLink own idx objectInit ∈ TBg) (hd1 : 1 ≤ d) (kk : EvI G own cc nL d mc ms (pc + 3) ls [] ws k n Q) : EvI G own cc nL d mc ms pc ls [.ref x] ws k n Q := by
  intro A p l e R s m args below meth c QQ F H locs lsA hP hD hS hL
  obtain ⟨hx, hb, hml, hown, hts, hw, hin, hfr, hlo, hce, hsl, hA, hq⟩ := id F
  have h2 : Cond.instanceMethod objectInit ∈ TBg := tbg_t 20 (by decide +kernel) (by decide +kernel)
  have h3 : Cond.code objectInit ⟨#[0xb1]⟩ 1 none ∈ TBg := tbg_t 21 (by decide +kernel) (by decide +kernel)
  exact W.objInit hx hb hown (hts _ h1) (hts _ h2) (hts _ h3) rfl (by rw [hml]; exact hL.1) rfl hd (by omega) (by show 2 * 0 + 0 + 12 ≤ _; omega) (kk A p l e R s m args below meth c QQ F H locs lsA hP hD hS hL)
theorem ei_newI {x : Int32} {N : Nat} (hd : decode cc pc = .ok (.newarray .int, 2)) (h0 : ¬ x < 0) (hN : x.toNatClampNeg = N) (hN2 : N ≤ 10000) (h1 : k + 1 ≤ mc) (h2 : n + N ≤ ms) (kk : ∀ q, EvI G own cc nL d mc ms (pc + 2) ls (.ref q :: st) (ws ++ [zI G.2.1 q N]) (k + 1) (n + N) Q) : EvI G own cc nL d mc ms pc ls (.int x :: st) ws k n Q := by
  intro A p l e R s m args below meth c QQ F H locs lsA hP hD hS hL
  obtain ⟨hx, hb, hml, hown, hts, hw, hin, hfr, hlo, hce, hsl, hA, hq⟩ := id F
  refine va_newa (atype := .int) hx hb (hts _ (tbg_t 58 (by decide +kernel) (by decide +kernel))) rfl hw.1 hP hD hS hA (a0 := (N, .inl (fun _ => 0))) (fun _ => rfl) h0 hN (by show N * 4 ≤ _; omega) (by omega) (by omega) hd (fun q cA H1 hK hP hD hS => ?_)
  obtain rfl := ka10 hK
  exact kk q A p l e R s m args below meth c QQ F H1 locs lsA hP hD hS hL
theorem ei_newB {x : Int32} {N : Nat} (hd : decode cc pc = .ok (.newarray .boolean, 2)) (h0 : ¬ x < 0) (hN : x.toNatClampNeg = N) (hN2 : N ≤ 10000) (h1 : k + 1 ≤ mc) (h2 : n + N ≤ ms) (kk : ∀ q, EvI G own cc nL d mc ms (pc + 2) ls (.ref q :: st) (ws ++ [zB G.2.1 q N]) (k + 1) (n + N) Q) : EvI G own cc nL d mc ms pc ls (.int x :: st) ws k n Q := by
  intro A p l e R s m args below meth c QQ F H locs lsA hP hD hS hL
  obtain ⟨hx, hb, hml, hown, hts, hw, hin, hfr, hlo, hce, hsl, hA, hq⟩ := id F
  refine va_newa (atype := .boolean) hx hb (hts _ (tbg_t 182 (by decide +kernel) (by decide +kernel))) rfl hw.1 hP hD hS hA (a0 := (N, .inl (fun _ => 0))) (fun _ => rfl) h0 hN (by show N * 1 ≤ _; omega) (by omega) (by omega) hd (fun q cA H1 hK hP hD hS => ?_)
  obtain rfl := ka11 hK
  exact kk q A p l e R s m args below meth c QQ F H1 locs lsA hP hD hS hL
theorem ei_newS {idx : Nat} {x : Int32} {N : Nat} (hd : decode cc pc = .ok (.anewarray idx, 3)) (hc : Cond.classLink own idx RX3 ∈ TBg) (h0 : ¬ x < 0) (hN : x.toNatClampNeg = N) (hN2 : N ≤ 10000) (h1 : k + 1 ≤ mc) (h2 : n + N ≤ ms) (kk : ∀ q, EvI G own cc nL d mc ms (pc + 3) ls (.ref q :: st) (ws ++ [zR (G.2.1 13) q N (fun _ => none)]) (k + 1) (n + N) Q) : EvI G own cc nL d mc ms pc ls (.int x :: st) ws k n Q := by
  intro A p l e R s m args below meth c QQ F H locs lsA hP hD hS hL
  obtain ⟨hx, hb, hml, hown, hts, hw, hin, hfr, hlo, hce, hsl, hA, hq⟩ := id F
  refine va_newq hx hb hown (hts _ hc) hw.2.2.1 hw.1 hP hD hS hA h0 hN (by omega) (by omega) (by omega) hd (fun q cA H1 hK hP hD hS => ?_)
  obtain rfl := ka13 hK
  exact kk q A p l e R s m args below meth c QQ F H1 locs lsA hP hD hS hL
theorem ei_newT {idx : Nat} {x : Int32} {N : Nat} (hd : decode cc pc = .ok (.anewarray idx, 3)) (hc : Cond.classLink own idx RX5 ∈ TBg) (h0 : ¬ x < 0) (hN : x.toNatClampNeg = N) (hN2 : N ≤ 10000) (h1 : k + 1 ≤ mc) (h2 : n + N ≤ ms) (kk : ∀ q, EvI G own cc nL d mc ms (pc + 3) ls (.ref q :: st) (ws ++ [zR (G.2.1 14) q N (fun _ => none)]) (k + 1) (n + N) Q) : EvI G own cc nL d mc ms pc ls (.int x :: st) ws k n Q := by
  intro A p l e R s m args below meth c QQ F H locs lsA hP hD hS hL
  obtain ⟨hx, hb, hml, hown, hts, hw, hin, hfr, hlo, hce, hsl, hA, hq⟩ := id F
  refine va_newq hx hb hown (hts _ hc) hw.2.2.2.1 hw.1 hP hD hS hA h0 hN (by omega) (by omega) (by omega) hd (fun q cA H1 hK hP hD hS => ?_)
  obtain rfl := ka14 hK
  exact kk q A p l e R s m args below meth c QQ F H1 locs lsA hP hD hS hL
theorem ei_mul {idx : Nat} {x y : Int32} {N M : Nat} (hd : decode cc pc = .ok (.multianewarray idx 2, 4)) (hc : Cond.classLink own idx "[[I" ∈ TBg) (h0 : ¬ x < 0) (h0' : ¬ y < 0) (hN : x.toNatClampNeg = N) (hM : y.toNatClampNeg = M) (hN2 : N ≤ 1000) (hM2 : M ≤ 1000) (h1 : k + 1 + N ≤ mc) (h2 : n + N + N * M ≤ ms) (kk : ∀ q, EvI G own cc nL d mc ms (pc + 4) ls (.ref q :: st) (ws ++ muW G.2.1 q N M) (k + 1 + N) (n + N + N * M) Q) : EvI G own cc nL d mc ms pc ls (.int y :: .int x :: st) ws k n Q := by
  intro A p l e R s m args below meth c QQ F H locs lsA hP hD hS hL
  obtain ⟨hx, hb, hml, hown, hts, hw, hin, hfr, hlo, hce, hsl, hA, hq⟩ := id F
  refine W_mul2 hx hb hown (hts _ hc) hw.1 hw.2.2.2.2.1 rfl hd rfl h0 h0' hN hM hN2 hM2 (by omega) (by omega) (fun H1 L hL1 z1 z2 z3 z4 => ?_)
  have hPk : va_P G.1 vwCl ws H1 := hP.kept (fun i x hx => z4 x.1 ((hP i x hx).lt))
  have hPm : va_P G.1 vwCl (muW G.2.1 H.size N M) H1 := fun t x hx => by
    rcases muW_inv hx with ⟨-, rfl⟩ | ⟨j, hj, -, rfl⟩
    · show H1[H.size]? = some (vp_cell _ _)
      rw [z2]
      have := fun_refs (cA := G.2.1 12) (N := N) (f := fun i => some (H.size + 1 + i)) (g := fun i => if i < N then some (H.size + 1 + i) else none) (fun i hi => (if_pos hi).symm)
      rw [this, vp_cell_q]
      congr 2
      funext j
      unfold muF
      by_cases q : j < N
      · rw [if_pos q, if_pos q]; rfl
      · rw [if_neg q, if_neg q]; rfl
    · exact z3 j hj
  have hDm : va_D A (ws ++ muW G.2.1 H.size N M) := by
    refine va_D.app hD ⟨fun i j x y h3 h4 h5 => ?_, fun i x h3 => ?_⟩ (fun i j x y h3 h4 h5 => ?_)
    · rcases muW_inv h3 with ⟨a, rfl⟩ | ⟨a, -, b, rfl⟩ <;> rcases muW_inv h4 with ⟨a', rfl⟩ | ⟨a', -, b', rfl⟩
      · omega
      · have h5 : H.size = H.size + 1 + a' := h5; omega
      · have h5 : H.size + 1 + a = H.size := h5; omega
      · have h5 : H.size + 1 + a = H.size + 1 + a' := h5; omega
    · rcases muW_inv h3 with ⟨a, rfl⟩ | ⟨a, -, b, rfl⟩
      · exact hA _ hS.1
      · exact hA _ (by show _ ≤ H.size + 1 + a; have := hS.1; omega)
    · have h6 : x.1 < H.size := (hP i x h3).lt
      rcases muW_inv h4 with ⟨a, rfl⟩ | ⟨a, -, b, rfl⟩
      · have h5 : x.1 = H.size := h5; omega
      · have h5 : x.1 = H.size + 1 + a := h5; omega
  have hSm : va_S A s.heap H1 (locs ++ L) := ⟨by have := hS.1; omega, fun q q1 q2 => (z4 q (Nat.lt_of_lt_of_le q1 hS.1)).trans (hS.2.1 q q1 q2), fun x hx => by
    rcases List.mem_append.mp hx with h | h
    · exact hS.2.2 x h
    · rw [hL1 x h]; exact hA _ hS.1⟩
  exact kk H.size A p l e R s m args below meth c QQ F H1 (locs ++ L) lsA (hPk.app hPm) hDm hSm hL
theorem ei_new {idx idx2 ci N mL d' mc' ms' : Nat} {fs : List Value} {y : MethodName} {b : ByteArray} {Pst : Nat → va_W → Prop} (hd0 : decode cc pc = .ok (.new idx, 3)) (hd1 : decode cc (pc + 3) = .ok (.dup, 1)) (hd2 : decode cc (pc + 4) = .ok (.invokespecial idx2, 3)) (hC : CL own idx ci N fs) (hI : NI own idx2 y b mL) (hM : MtI G y b mL d' mc' ms' ci fs Pst) (hdd : d' < d) (h1 : k + 1 + mc' ≤ mc) (h2 : n + N + ms' ≤ ms) (h8 : (st.map fun v => v.category).sum ≤ 7) (kk : ∀ q u, Pst q u → EvI G own cc nL d mc ms (pc + 7) ls (.ref q :: st) (ws ++ u) (k + 1 + mc') (n + N + ms') Q) : EvI G own cc nL d mc ms pc ls st ws k n Q := by
  intro A p l e R s m args below meth c QQ F H locs lsA hP hD hS hL
  obtain ⟨hx, hb, hml, hown, hts, hw, hin, hfr, hlo, hce, hsl, hA, hq⟩ := id F
  exact vz_new hx hb hml hown hts hw hA hL.1 hP hD hS hC hI hM (by omega) (by have := hI.2.2.2.2.1; omega) (by omega) (by omega) h8 hd0 hd1 hd2 (fun q u H1 locs1 hu hP hD hS => kk q u hu A p l e R s m args below meth c QQ F H1 locs1 lsA hP hD hS hL)
theorem ei_putF {idx c0 j N h0 q : Nat} {fs fs' : List Value} {w : va_W} (hd : decode cc pc = .ok (.putfield idx, 3)) (hF : FR own idx c0 j N) (hl : j < fs.length) (hfs : fs.set j (.ref q) = fs') (kk : EvI G own cc nL d mc ms (pc + 3) ls st (zO h0 c0 fs' :: w) k n Q) : EvI G own cc nL d mc ms pc ls (.ref q :: .ref h0 :: st) (zO h0 c0 fs :: w) k n Q := by
  intro A p l e R s m args below meth c QQ F H locs lsA hP hD hS hL
  obtain ⟨hx, hb, hml, hown, hts, hw, hin, hfr, hlo, hce, hsl, hA, hq⟩ := id F
  subst hfs
  obtain ⟨C, T, ty0, f1, f2, f3, f4, f5, f6, f7, f8, f9, g1, g2⟩ := hF
  exact va_putF (v := .ref q) (ty := ty0 j) hx hb hts f2 ty0 f5 f6 hown hw.1 hP hD hS 0 rfl f1 j f3 (hts _ f4) (fun z h => by rw [f7] at h; exact h) f9 hin (f7.trans f8) (f5 j f3) (g1 q) (g2 q) hl hd (fun H1 locs1 hP hD hS => kk A p l e R s m args below meth c QQ F H1 locs1 lsA hP hD hS hL)
theorem ei_get {idx c0 j N h0 q : Nat} {fs : List Value} {w : va_W} (hd : decode cc pc = .ok (.getfield idx, 3)) (hF : FR own idx c0 j N) (hv : fs[j]? = some (.ref q)) (kk : EvI G own cc nL d mc ms (pc + 3) ls (.ref q :: st) (zO h0 c0 fs :: w) k n Q) : EvI G own cc nL d mc ms pc ls (.ref h0 :: st) (zO h0 c0 fs :: w) k n Q := by
  intro A p l e R s m args below meth c QQ F H locs lsA hP hD hS hL
  obtain ⟨hx, hb, hml, hown, hts, hw, hin, hfr, hlo, hce, hsl, hA, hq⟩ := id F
  obtain ⟨C, T, ty0, f1, f2, f3, f4, f5, f6, f7, f8, f9, g1, g2⟩ := hF
  exact va_get hx hb hts f2 hown hw.1 hP 0 rfl f1 j f3 (hts _ f4) (fun z h => by rw [f7] at h; exact h) hv hd (kk A p l e R s m args below meth c QQ F H locs lsA hP hD hS hL)
theorem ei_aast {q0 t0 qk ci a N v j : Nat} {cA : ClassId} {r : vw_C} {vs : List Value} {f : Nat → Option Nat} {i : Int32} {ws' : va_W} (hd : decode cc pc = .ok (.aastore, 1)) (ha : ws[q0]? = some (zR cA a N f)) (ht : (tysOf G.2.1)[t0]? = some (cA, .object r.1)) (hv : ws[qk]? = some (zO v ci vs)) (hc : vwCl[ci]? = some r) (hi : vp_in i N) (hj : i.toNatClampNeg = j) (hws : ws.set q0 (zR cA a N (va_up f j (some v))) = ws') (kk : EvI G own cc nL d mc ms (pc + 1) ls st ws' k n Q) : EvI G own cc nL d mc ms pc ls (.ref v :: .int i :: .ref a :: st) ws k n Q := by
  intro A p l e R s m args below meth c QQ F H locs lsA hP hD hS hL
  obtain ⟨hx, hb, hml, hown, hts, hw, hin, hfr, hlo, hce, hsl, hA, hq⟩ := id F
  subst hws
  subst hj
  exact va_astq hx hb hw.1 hP hD hS q0 t0 qk ci ha ht hv hc hi hd (fun H1 locs1 hP hD hS => kk A p l e R s m args below meth c QQ F H1 locs1 lsA hP hD hS hL)
theorem ei_iast {q0 a N j : Nat} {f : Nat → Int32} {i x : Int32} {ws' : va_W} (hd : decode cc pc = .ok (.iastore, 1)) (ha : ws[q0]? = some (a, .inl (G.2.1 10, N, .inl f))) (hi : vp_in i N) (hj : i.toNatClampNeg = j) (hws : ws.set q0 (a, .inl (G.2.1 10, N, .inl (upd f j x))) = ws') (kk : EvI G own cc nL d mc ms (pc + 1) ls st ws' k n Q) : EvI G own cc nL d mc ms pc ls (.int x :: .int i :: .ref a :: st) ws k n Q := by
  intro A p l e R s m args below meth c QQ F H locs lsA hP hD hS hL
  obtain ⟨hx, hb, hml, hown, hts, hw, hin, hfr, hlo, hce, hsl, hA, hq⟩ := id F
  subst hws
  subst hj
  exact va_iast hx hb hw.1 hP hD hS q0 0 ha rfl hi hd (fun H1 locs1 hP hD hS => kk A p l e R s m args below meth c QQ F H1 locs1 lsA hP hD hS hL)
theorem ei_lim (hd : decode cc pc = .ok (.getstatic 15, 3)) (ho : own = RX6) (kk : EvI G own cc nL d mc ms (pc + 3) ls (.ref G.2.2 :: st) ws k n Q) : EvI G own cc nL d mc ms pc ls st ws k n Q := by
  intro A p l e R s m args below meth c QQ F H locs lsA hP hD hS hL
  obtain ⟨hx, hb, hml, hown, hts, hw, hin, hfr, hlo, hce, hsl, hA, hq⟩ := id F
  subst ho
  exact va_getsN hx hb hw.2.2.2.2.2.1 hS hown (va_Nw.use rfl (hw.2.1 _ List.mem_cons_self)) (fun _ h => h) hd (kk A p l e R s m args below meth c QQ F H locs lsA hP hD hS hL)
theorem ei_limlen (hd : decode cc pc = .ok (.arraylength, 1)) (kk : EvI G own cc nL d mc ms (pc + 1) ls (.int 6 :: st) ws k n Q) : EvI G own cc nL d mc ms pc ls (.ref G.2.2 :: st) ws k n Q := by
  intro A p l e R s m args below meth c QQ F H locs lsA hP hD hS hL
  obtain ⟨hx, hb, hml, hown, hts, hw, hin, hfr, hlo, hce, hsl, hA, hq⟩ := id F
  exact va_tlen hx hb hw.2.2.2.2.2.2 hS (by decide) hd (kk A p l e R s m args below meth c QQ F H locs lsA hP hD hS hL)
theorem ei_return (hd : decode cc pc = .ok (.return_, 1)) (hk : k = mc) (hn : n = ms) (hQ : Q ws) : EvI G own cc nL d mc ms pc ls [] ws k n Q := by
  intro A p l e R s m args below meth c QQ F H locs lsA hP hD hS hL
  obtain ⟨hx, hb, hml, hown, hts, hw, hin, hfr, hlo, hce, hsl, hA, hq⟩ := id F
  subst hk hn
  exact hq ws H locs pc lsA hQ hP hD hS hd
theorem ei_refs {q0 a N : Nat} {cA : ClassId} {f : Nat → Option Nat} (g : Nat → Option Nat) {ws' : va_W} (ha : ws[q0]? = some (zR cA a N f)) (hg : ∀ i, i < N → f i = g i) (hws : ws.set q0 (zR cA a N g) = ws') (kk : EvI G own cc nL d mc ms pc ls st ws' k n Q) : EvI G own cc nL d mc ms pc ls st ws k n Q := by
  intro A p l e R s m args below meth c QQ F H locs lsA hP hD hS hL
  obtain ⟨hx, hb, hml, hown, hts, hw, hin, hfr, hlo, hce, hsl, hA, hq⟩ := id F
  subst hws
  refine kk A p l e R s m args below meth c QQ F H locs lsA (hP.set hD ha ?_ (fun _ _ => rfl)) (hD.set ha) hS hL
  show H[a]? = some (vp_cell _ _)
  rw [← fun_refs hg]
  exact hP q0 _ ha
theorem ei_ints {q0 a N : Nat} {cA : ClassId} {f : Nat → Int32} (g : Nat → Int32) {ws' : va_W} (ha : ws[q0]? = some (a, .inl (cA, N, .inl f))) (hg : ∀ i, i < N → f i = g i) (hws : ws.set q0 (a, .inl (cA, N, .inl g)) = ws') (kk : EvI G own cc nL d mc ms pc ls st ws' k n Q) : EvI G own cc nL d mc ms pc ls st ws k n Q := by
  intro A p l e R s m args below meth c QQ F H locs lsA hP hD hS hL
  obtain ⟨hx, hb, hml, hown, hts, hw, hin, hfr, hlo, hce, hsl, hA, hq⟩ := id F
  subst hws
  refine kk A p l e R s m args below meth c QQ F H locs lsA (hP.set hD ha ?_ (fun _ _ => rfl)) (hD.set ha) hS hL
  show H[a]? = some (vp_cell _ _)
  rw [← fun_ints hg]
  exact hP q0 _ ha
end EI
