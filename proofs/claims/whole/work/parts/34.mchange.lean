/-! ===== the reference: what changes the kitchen ===== -/
theorem mrow.cp {σ : Sto} {o f t a n : Nat} {s : Scn} (hn : n ≤ 6) (h : mrow σ o f n s) : mrow (cpk σ o f t a 11) t a n s := by
  refine ⟨fun p hp => ?_, ?_, fun b hb => ?_⟩
  · rw [cpk_in (by omega)]; exact h.1 p hp
  · rw [cpk_in (by omega)]; exact h.2.1
  · rw [Nat.add_assoc, cpk_in (by omega), ← Nat.add_assoc]; exact h.2.2 b hb
theorem mrow.cpo {σ : Sto} {o f t a n q : Nat} {s : Scn} (hn : n ≤ 6) (hq : q + 11 ≤ a ∨ a + 11 ≤ q) (h : mrow σ t q n s) : mrow (cpk σ o f t a 11) t q n s := by
  refine ⟨fun p hp => ?_, ?_, fun b hb => ?_⟩
  · rw [cpk_out (by omega)]; exact h.1 p hp
  · rw [cpk_out (by omega)]; exact h.2.1
  · rw [cpk_out (by omega)]; exact h.2.2 b hb
def remM (σ : Sto) (k : Nat) : Sto := wr (cpk σ 120 0 121 (11 * k) 11) 117 5 (nI (k + 1))
/-- nothing but the past -/
def RmF (σ τ : Sto) : Prop := τ.2 = σ.2 ∧ (∀ c, c ≠ 117 → c ≠ 121 → τ.1 c = σ.1 c) ∧ ∀ j, j ≠ 5 → τ.1 117 j = σ.1 117 j
theorem RmF.fr {σ τ : Sto} (h : RmF σ τ) : FrM σ τ := FrM.of (fun c hc => h.2.1 c (by omega) (by omega)) h.1
theorem RmF.tr {a b c : Sto} (h : RmF a b) (g : RmF b c) : RmF a c := ⟨g.1.trans h.1, fun k h1 h2 => (g.2.1 k h1 h2).trans (h.2.1 k h1 h2), fun j hj => (g.2.2 j hj).trans (h.2.2 j hj)⟩
theorem rmF_rem (σ : Sto) (k : Nat) : RmF σ (remM σ k) := ⟨rfl, fun c h1 h2 => by unfold remM; rw [wr_ne h1, cpk_ne h2], fun j hj => by unfold remM; rw [wr_nj hj, cpk_ne (by decide)]⟩
theorem RW.rmf {A A' : Abs} {σ τ : Sto} (h : RW A σ) (g : RmF σ τ) (hp : pastM A' τ) (e : A' = setP A (aP A')) : RW A' τ := by
  obtain ⟨b, c, p, i, s, t, r⟩ := h
  obtain ⟨g1, g2, g3⟩ := g
  rw [e] at hp ⊢
  exact ⟨b.mv (g3 0 (by decide)) (g2 118 (by decide) (by decide)) (g2 119 (by decide) (by decide)), c.mv (g2 120 (by decide) (by decide)), hp, i.mv (g2 123 (by decide) (by decide)) (g2 122 (by decide) (by decide)), s.mv (g3 8 (by decide)) (g2 124 (by decide) (by decide)) (g2 125 (by decide) (by decide)), t.mv (g3 13 (by decide)) (g2 126 (by decide) (by decide)), by rw [g1]; exact r⟩
theorem RW.rem {A : Abs} {σ : Sto} (h : RW A σ) (hn : aN A ≤ 6) (hl : (aP A).length < 10) : RW (remA A) (remM σ (aP A).length) := by
  refine h.rmf (rmF_rem _ _) ⟨?_, fun i s hs => ?_⟩ rfl
  · unfold remM
    rw [wr_at]
    show _ = nI ((aC A :: aP A).take 10).length
    rw [List.length_take, List.length_cons, show min 10 ((aP A).length + 1) = (aP A).length + 1 by omega]
  · have hs' : ((aC A :: aP A).take 10)[i]? = some s := hs
    have el : (aP (remA A)).length = (aP A).length + 1 := by
      show ((aC A :: aP A).take 10).length = _
      rw [List.length_take, List.length_cons]; omega
    rw [el]
    rw [List.getElem?_take] at hs'
    by_cases hi : i < 10
    · rw [if_pos hi] at hs'
      have m2 : ∀ q, mrow (cpk σ 120 0 121 (11 * (aP A).length) 11) 121 q (aN A) s → mrow (remM σ (aP A).length) 121 q (aN (remA A)) s := fun q hq => hq.mv (by unfold remM; rw [wr_ne (by decide)])
      cases i with
      | zero =>
        cases hs'
        exact m2 _ (h.2.1.cp hn)
      | succ i =>
        have hs2 : (aP A)[i]? = some s := hs'
        have hlt : i < (aP A).length := by rcases Nat.lt_or_ge i (aP A).length with z | z; exact z; rw [List.getElem?_eq_none z] at hs2; cases hs2
        have := h.2.2.1.2 i s hs2
        rw [show (aP A).length + 1 - 1 - (i + 1) = (aP A).length - 1 - i by omega]
        exact m2 _ (this.cpo hn (by omega))
    · rw [if_neg hi] at hs'; cases hs'
def shK (σ : Sto) (k : Nat) : Sto := (fun a b => if a = 121 ∧ b < k then σ.1 121 (b + 11) else σ.1 a b, σ.2)
theorem shK_0 (σ : Sto) : shK σ 0 = σ := by
  refine Prod.ext (funext fun a => funext fun b => ?_) rfl
  unfold shK
  show (if a = 121 ∧ b < 0 then _ else _) = _
  rw [if_neg (by omega)]
theorem shK_s (σ : Sto) (k : Nat) : wr (shK σ k) 121 k ((shK σ k).1 121 (k + 11)) = shK σ (k + 1) := by
  have e : (shK σ k).1 121 (k + 11) = σ.1 121 (k + 11) := by unfold shK; simp; intro z; omega
  rw [e]
  refine Prod.ext (funext fun a => funext fun b => ?_) rfl
  unfold wr shK
  show (if a = 121 ∧ b = k then _ else if a = 121 ∧ b < k then _ else _) = if a = 121 ∧ b < k + 1 then _ else _
  by_cases e : a = 121
  · by_cases e2 : b = k
    · rw [if_pos ⟨e, e2⟩, if_pos ⟨e, by omega⟩, e2]
    · rw [if_neg (fun z => e2 z.2)]
      by_cases e3 : b < k
      · rw [if_pos ⟨e, e3⟩, if_pos ⟨e, by omega⟩]
      · rw [if_neg (fun z => e3 z.2), if_neg (fun z => e3 (by omega))]
  · rw [if_neg (fun z => e z.1), if_neg (fun z => e z.1), if_neg (fun z => e z.1)]
theorem shK_ne {σ : Sto} {k c : Nat} (h : c ≠ 121) : (shK σ k).1 c = σ.1 c := by funext b; unfold shK; simp [h]
theorem shK_in {σ : Sto} {k b : Nat} (h : b < k) : (shK σ k).1 121 b = σ.1 121 (b + 11) := by unfold shK; simp [h]
def shM (σ : Sto) : Sto := wr (shK σ 99) 117 5 (nI 9)
theorem rmF_sh (σ : Sto) : RmF σ (shM σ) := ⟨rfl, fun c h1 h2 => by unfold shM; rw [wr_ne h1, shK_ne h2], fun j hj => by unfold shM; rw [wr_nj hj, shK_ne (by decide)]⟩
theorem RW.sh {A : Abs} {σ : Sto} (h : RW A σ) (hn : aN A ≤ 6) (hl : (aP A).length = 10) : RW (setP A ((aP A).take 9)) (shM σ) := by
  refine h.rmf (rmF_sh _) ⟨?_, fun i s hs => ?_⟩ rfl
  · unfold shM
    rw [wr_at]
    show _ = nI ((aP A).take 9).length
    rw [List.length_take, hl]; rfl
  · have hs' : ((aP A).take 9)[i]? = some s := hs
    have el : (aP (setP A ((aP A).take 9))).length = 9 := by
      show ((aP A).take 9).length = _
      rw [List.length_take, hl]; rfl
    rw [el]
    rw [List.getElem?_take] at hs'
    by_cases hi : i < 9
    · rw [if_pos hi] at hs'
      have m := h.2.2.1.2 i s hs'
      rw [hl] at m
      have e : ∀ j, j < 11 → (shM σ).1 121 (11 * (9 - 1 - i) + j) = σ.1 121 (11 * (10 - 1 - i) + j) := fun j hj => by
        unfold shM
        rw [wr_ne (by decide), shK_in (by omega), show 11 * (9 - 1 - i) + j + 11 = 11 * (10 - 1 - i) + j by omega]
      refine ⟨fun p hp => ?_, ?_, fun b hb => ?_⟩
      · rw [e _ (by omega)]; exact m.1 p hp
      · rw [e _ (by omega)]; exact m.2.1
      · have hb' : b < aN A := hb
        rw [Nat.add_assoc, e _ (by omega), ← Nat.add_assoc]; exact m.2.2 b hb'
    · rw [if_neg hi] at hs'; cases hs'
theorem rem_sh {A : Abs} : remA (setP A ((aP A).take 9)) = remA A := by
  show setP A ((aC A :: (aP A).take 9).take 10) = setP A ((aC A :: aP A).take 10)
  rw [List.take_succ_cons, List.take_succ_cons, List.take_take]; rfl
set_option maxRecDepth 100000 in
theorem t_X8_remembers {S : Scr} {A : Abs} (x : Value) (σ : Sto) (h : RW A σ) (hn : aN A ≤ 6) (hl : (aP A).length < 10) : Ev S RX8 cX8_remembers 2 none 1 48 [.ref 117, x] [] σ (Is none (remM σ (aP A).length)) := by
  have hk := h.2.2.1.1
  refine ev_aload_n_0 (pc := 48) dX8_remembers_48 ?_
  refine ev_getR (pc := 49) (r := 121) dX8_remembers_49 fl_X8_19 (by decide) (by decide) (by decide) (by decide) ?_
  refine ev_bipush (pc := 52) (v := 11) dX8_remembers_52 (by decide) ?_
  refine ev_aload_n_0 (pc := 54) dX8_remembers_54 ?_
  refine ev_getI (pc := 55) dX8_remembers_55 fl_X8_113 (by decide) (by decide) (by decide) ?_
  refine ev_imulc (pc := 58) (v := nI (11 * (aP A).length)) dX8_remembers_58 (by rw [hk]; exact nI_mul 11 _) ?_
  refine ev_aload_n_0 (pc := 59) dX8_remembers_59 ?_
  refine ev_getR (pc := 60) (r := 120) dX8_remembers_60 fl_X8_16 (by decide) (by decide) (by decide) (by decide) ?_
  refine ev_iconst (pc := 63) (v := 0) dX8_remembers_63 (by decide) ?_
  refine ev_callS0 (pc := 64) dX8_remembers_64 ml_X8_119 (m_X8_copy isA_121 isA_120 (by decide) (11 * (aP A).length) 0 (by omega) (by decide) (by decide) (by decide) σ) rfl (by decide) rfl (Nat.le_of_ble_eq_true rfl) ?_
  refine ev_aload_n_0 (pc := 67) dX8_remembers_67 ?_
  refine ev_dup (pc := 68) dX8_remembers_68 rfl ?_
  refine ev_getI (pc := 69) dX8_remembers_69 fl_X8_113 (by decide) (by decide) (by decide) ?_
  refine ev_iconst (pc := 72) (v := 1) dX8_remembers_72 (by decide) ?_
  refine ev_iadd (pc := 73) dX8_remembers_73 ?_
  refine ev_putI (pc := 74) dX8_remembers_74 fl_X8_113 (by decide) (by decide) (by decide) ?_
  exact ev_return (pc := 77) dX8_remembers_77 rfl (⟨rfl, by unfold remM; rw [cpk_ne (by decide), hk, nI_s1]⟩)
set_option maxRecDepth 100000 in
theorem b_X8_remembers {S : Scr} (i : Nat) (hi : i < 99) (τ : Sto) {Q : Option Value → Sto → Prop} (K : Ev S RX8 cX8_remembers 2 none 1 11 [.ref 117, .int (nI (i + 1))] [] (wr τ 121 i (τ.1 121 (i + 11))) (Q)) : Ev S RX8 cX8_remembers 2 none 1 11 [.ref 117, .int (nI i)] [] τ (Q) := by
  refine ev_iload_n_1 (pc := 11) dX8_remembers_11 ?_
  refine ev_bipush (pc := 12) (v := 99) dX8_remembers_12 (by decide) ?_
  refine ev_icmp_ge (pc := 14) (tgt := 38) dX8_remembers_14 (by decide) (fun h14 => by exact absurd h14 (nI_ge (a := i) (b := 99) hi (by decide))) (fun h14 => ?_)
  refine ev_aload_n_0 (pc := 17) dX8_remembers_17 ?_
  refine ev_getR (pc := 18) (r := 121) dX8_remembers_18 fl_X8_19 (by decide) (by decide) (by decide) (by decide) ?_
  refine ev_iload_n_1 (pc := 21) dX8_remembers_21 ?_
  refine ev_aload_n_0 (pc := 22) dX8_remembers_22 ?_
  refine ev_getR (pc := 23) (r := 121) dX8_remembers_23 fl_X8_19 (by decide) (by decide) (by decide) (by decide) ?_
  refine ev_iload_n_1 (pc := 26) dX8_remembers_26 ?_
  refine ev_bipush (pc := 27) (v := 11) dX8_remembers_27 (by decide) ?_
  refine ev_iaddc (pc := 29) (v := nI (i + 11)) dX8_remembers_29 (nI_add i 11) ?_
  refine ev_iaload' (pc := 30) (j := (i + 11)) dX8_remembers_30 (by decide) (by decide) (show vp_in _ 110 from (vp_in_nI (by omega) (by decide))) (nI_clamp (by omega)) ?_
  refine ev_iastore' (pc := 31) (j := i) dX8_remembers_31 (by decide) (by decide) (show vp_in _ 110 from (vp_in_nI (by omega) (by decide))) (nI_clamp (by omega)) ?_
  refine ev_iinc_1 (pc := 32) (v := nI (i + 1)) dX8_remembers_32 (nI_inc i) (by decide) ?_
  refine ev_goto (pc := 35) (tgt := 11) dX8_remembers_35 (by decide) ?_
  exact K
theorem m_X8_remembers {S : Scr} {A : Abs} (σ : Sto) (h : RM A σ) : Mt S yX8_remembers cX8_remembers 2 none 1 [.ref 117] σ (fun r τ => r = none ∧ RW (remA A) τ ∧ RmF σ τ) := by
  refine mt_of (ls := [.ref 117, .null]) (by decide) rfl (Nat.le_of_ble_eq_true rfl) (by simp [Value.category]) ?_
  have hk := h.known
  have hl := h.len10
  have ha := h.n6
  refine ev_aload_n_0 (pc := 0) dX8_remembers_0 ?_
  refine ev_getI (pc := 1) dX8_remembers_1 fl_X8_113 (by decide) (by decide) (by decide) ?_
  rw [hk]
  refine ev_bipush (pc := 4) (v := 10) dX8_remembers_4 (by decide) ?_
  refine ev_icmp_ne (pc := 6) (tgt := 48) dX8_remembers_6 (by decide) (fun h6 => ?_) (fun h6 => ?_)
  · skip
    exact ev_post (t_X8_remembers (A := A) _ σ h.2 ha (by have : (aP A).length ≠ 10 := fun z => h6 (by rw [z]; rfl); omega)) (fun r τ e => ⟨e.1, by rw [e.2]; exact RW.rem h.2 ha (by have : (aP A).length ≠ 10 := fun z => h6 (by rw [z]; rfl); omega), by rw [e.2]; exact rmF_rem _ _⟩)
  · skip
    refine ev_iconst (pc := 9) (v := 0) dX8_remembers_9 (by decide) ?_
    refine ev_istore_n_1 (pc := 10) dX8_remembers_10 (by decide) ?_
    have hl2 : (aP A).length = 10 := nI_inj (b := 10) h6 (by omega) (by decide)
    have hS := RW.sh h.2 ha hl2
    have hL : (aP (setP A ((aP A).take 9))).length < 10 := by show ((aP A).take 9).length < 10; rw [List.length_take]; omega
    have key : Ev S RX8 cX8_remembers 2 none 1 11 [.ref 117, .int (nI 99)] [] (shK σ 99) (fun r τ => r = none ∧ RW (remA A) τ ∧ RmF σ τ) → Ev S RX8 cX8_remembers 2 none 1 11 [.ref 117, .int (nI 0)] [] σ (fun r τ => r = none ∧ RW (remA A) τ ∧ RmF σ τ) := fun z => by
      have := for_up 99 (fun i (_ : Unit) => Ev S RX8 cX8_remembers 2 none 1 11 [.ref 117, .int (nI i)] [] (shK σ i) (fun r τ => r = none ∧ RW (remA A) τ ∧ RmF σ τ)) (fun _ u => u) (fun i _ hi K => b_X8_remembers i hi _ (by rw [shK_s]; exact K)) () z
      rw [shK_0] at this
      exact this
    refine key ?_
    refine ev_iload_n_1 (pc := 11) dX8_remembers_11 ?_
    refine ev_bipush (pc := 12) (v := 99) dX8_remembers_12 (by decide) ?_
    refine ev_icmp_ge (pc := 14) (tgt := 38) dX8_remembers_14 (by decide) (fun h14 => ?_) (fun h14 => by exact absurd h14 (by decide))
    refine ev_aload_n_0 (pc := 38) dX8_remembers_38 ?_
    refine ev_dup (pc := 39) dX8_remembers_39 rfl ?_
    refine ev_getI (pc := 40) dX8_remembers_40 fl_X8_113 (by decide) (by decide) (by decide) ?_
    refine ev_iconst (pc := 43) (v := 1) dX8_remembers_43 (by decide) ?_
    refine ev_isub (pc := 44) dX8_remembers_44 ?_
    refine ev_putI (pc := 45) dX8_remembers_45 fl_X8_113 (by decide) (by decide) (by decide) ?_
    refine ev_eq rfl rfl (σ' := shM σ) (by unfold shM; rw [shK_ne (by decide), hk, hl2]; rfl) ?_
    exact ev_post (t_X8_remembers (A := setP A ((aP A).take 9)) _ (shM σ) hS ha hL) (fun r τ e => ⟨e.1, by rw [e.2, ← rem_sh]; exact hS.rem ha hL, by rw [e.2]; exact (rmF_sh σ).tr (rmF_rem _ _)⟩)
