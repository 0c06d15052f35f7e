/-! ===== the reference: its reader ===== -/
abbrev ltr (f : Nat → Int32) (n s : Nat) : Int32 := if s < n then f s else -1
/-- the text lies as f, n letters -/
def txT (f : Nat → Int32) (n : Nat) (τ : Sto) : Prop := n ≤ 120 ∧ τ.1 117 13 = nI n ∧ (∀ i, i < n → τ.1 126 i = f i) ∧ ∀ i, i < n → 0 ≤ f i ∧ f i ≤ 255
theorem ltr_d {f : Nat → Int32} {n s : Nat} (h : ∀ i, i < n → 0 ≤ f i ∧ f i ≤ 255) : (48 ≤ ltr f n s ∧ ltr f n s ≤ 57) ↔ isd f n s := by
  unfold ltr isd
  by_cases z : s < n
  · rw [if_pos z]; exact ⟨fun y => ⟨z, y⟩, fun y => y.2⟩
  · rw [if_neg z]; exact ⟨fun y => absurd y.1 (by decide), fun y => absurd y.1 z⟩
set_option maxRecDepth 100000 in
theorem m_X8_letterAt {S : Scr} (f : Nat → Int32) (n s : Nat) (hs : s < 1000) (σ : Sto) (h : txT f n σ) : Mt S yX8_letterAt cX8_letterAt 2 (some .int) 0 [.ref 117, .int (nI s)] σ (Is (some (.int (ltr f n s))) σ) := by
  refine mt_of (ls := [.ref 117, .int (nI s)]) (by decide) rfl (Nat.le_of_ble_eq_true rfl) (by simp [Value.category]) ?_
  have hn := h.1
  refine ev_iload_n_1 (pc := 0) dX8_letterAt_0 ?_
  refine ev_aload_n_0 (pc := 1) dX8_letterAt_1 ?_
  refine ev_getI (pc := 2) dX8_letterAt_2 fl_X8_58 (by decide) (by decide) (by decide) ?_
  rw [h.2.1]
  refine ev_icmp_ge (pc := 5) (tgt := 17) dX8_letterAt_5 (by decide) (fun h5 => ?_) (fun h5 => ?_)
  · skip
    refine ev_iconst (pc := 17) (v := (-1)) dX8_letterAt_17 (by decide) ?_
    exact ev_ireturn (pc := 18) dX8_letterAt_18 rfl rfl (⟨by rw [ltr, if_neg (by rw [tI_le, nI_toInt (by omega), nI_toInt (by omega)] at h5; omega)], rfl⟩)
  · skip
    have hlt : s < n := by rw [tI_le, nI_toInt (by omega), nI_toInt (by omega)] at h5; omega
    refine ev_aload_n_0 (pc := 8) dX8_letterAt_8 ?_
    refine ev_getR (pc := 9) (r := 126) dX8_letterAt_9 fl_X8_35 (by decide) (by decide) (by decide) (by decide) ?_
    refine ev_iload_n_1 (pc := 12) dX8_letterAt_12 ?_
    refine ev_iaload' (pc := 13) (j := s) dX8_letterAt_13 (by decide) (by decide) (show vp_in _ 120 from (vp_in_nI (by omega) (by decide))) (nI_clamp (by omega)) ?_
    refine ev_goto (pc := 14) (tgt := 18) dX8_letterAt_14 (by decide) ?_
    exact ev_ireturn (pc := 18) dX8_letterAt_18 rfl rfl (⟨by rw [ltr, if_pos hlt, h.2.2.1 s hlt], rfl⟩)
set_option maxRecDepth 100000 in
theorem m_X8_isFigure {S : Scr} (c : Int32) (σ : Sto) : Mt S yX8_isFigure cX8_isFigure 1 (some .boolean) 1 [.int c] σ (Is (some (.int (bI (48 ≤ c ∧ c ≤ 57)))) σ) := by
  refine mt_of (ls := [.int c]) (by decide) rfl (Nat.le_of_ble_eq_true rfl) (by simp [Value.category]) ?_
  refine ev_iload_n_0 (pc := 0) dX8_isFigure_0 ?_
  refine ev_bipush (pc := 1) (v := 48) dX8_isFigure_1 (by decide) ?_
  refine ev_bipush (pc := 3) (v := 57) dX8_isFigure_3 (by decide) ?_
  refine ev_callS1 (pc := 5) dX8_isFigure_5 ml_X8_54 (m_X8_in _ _ _ σ) rfl (by decide) rfl (Nat.le_of_ble_eq_true rfl) ?_
  exact ev_ireturn (pc := 8) dX8_isFigure_8 rfl (by unfold bI; split <;> rfl) (⟨rfl, rfl⟩)
/-- the reader's cells: the cursor stands at c -/
def cuR (c : Nat) (τ : Sto) : Prop := τ.1 117 14 = nI c
theorem txT.mv {f : Nat → Int32} {n : Nat} {σ τ : Sto} (h : txT f n σ) (g : Mls σ τ) : txT f n τ := ⟨h.1, (g.2.2.2 13 (by decide)).trans h.2.1, fun i hi => by rw [g.2.2.1 126 (by decide) (by decide)]; exact h.2.2.1 i hi, h.2.2.2⟩
theorem mls_w {σ : Sto} {j : Nat} {x : Int32} (h : 14 ≤ j) : Mls σ (wr σ 117 j x) := ⟨rfl, fun c hc => wr_ne (by omega), fun c h1 h2 => wr_ne (by omega), fun k hk => wr_nj (by omega)⟩
set_option maxRecDepth 100000 in
theorem b0_X8_next {S : Scr} (f : Nat → Int32) (n c : Nat) (hc : c ≤ n) (y : Value) (σ : Sto) {Q : Option Value → Sto → Prop} (h : txT f n σ) (hcu : cuR c σ) (K1 : (c < n ∧ f c = 32) → Ev S RX8 cX8_next 2 none 2 0 [.ref 117, y] [] (wr σ 117 14 (nI (c + 1))) (Q)) (K2 : ¬ (c < n ∧ f c = 32) → Ev S RX8 cX8_next 2 none 2 26 [.ref 117, y] [] σ (Q)) : Ev S RX8 cX8_next 2 none 2 0 [.ref 117, y] [] σ (Q) := by
  refine ev_aload_n_0 (pc := 0) dX8_next_0 ?_
  refine ev_aload_n_0 (pc := 1) dX8_next_1 ?_
  refine ev_getI (pc := 2) dX8_next_2 fl_X8_61 (by decide) (by decide) (by decide) ?_
  rw [show σ.1 117 14 = nI c from hcu]
  refine ev_callV1 (pc := 5) dX8_next_5 ml_X8_64 (m_X8_letterAt f n c (by have := h.1; omega) σ h) (by decide) ⟨_, rfl, rfl⟩ rfl (by decide) rfl (Nat.le_of_ble_eq_true rfl) ?_
  refine ev_bipush (pc := 8) (v := 32) dX8_next_8 (by decide) ?_
  refine ev_icmp_ne (pc := 10) (tgt := 26) dX8_next_10 (by decide) (fun h10 => ?_) (fun h10 => ?_)
  · skip
    exact K2 (fun z => h10 (by rw [ltr, if_pos z.1]; exact z.2))
  · skip
    refine ev_aload_n_0 (pc := 13) dX8_next_13 ?_
    refine ev_dup (pc := 14) dX8_next_14 rfl ?_
    refine ev_getI (pc := 15) dX8_next_15 fl_X8_61 (by decide) (by decide) (by decide) ?_
    rw [show σ.1 117 14 = nI c from hcu]
    refine ev_iconst (pc := 18) (v := 1) dX8_next_18 (by decide) ?_
    refine ev_iadd (pc := 19) dX8_next_19 ?_
    rw [nI_s1]
    refine ev_putI (pc := 20) dX8_next_20 fl_X8_61 (by decide) (by decide) (by decide) ?_
    refine ev_goto (pc := 23) (tgt := 0) dX8_next_23 (by decide) ?_
    exact K1 (by unfold ltr at h10; by_cases z : c < n; rw [if_pos z] at h10; exact ⟨z, h10⟩; rw [if_neg z] at h10; exact absurd h10 (by decide))
theorem l0_X8_next {S : Scr} (f : Nat → Int32) (n : Nat) (y : Value) {Q : Option Value → Sto → Prop} : ∀ k c, c + k = n → ∀ σ, txT f n σ → cuR c σ → Ev S RX8 cX8_next 2 none 2 26 [.ref 117, y] [] (wr σ 117 14 (nI (skF f n k c))) (Q) → Ev S RX8 cX8_next 2 none 2 0 [.ref 117, y] [] σ (Q) := by
  intro k
  induction k with
  | zero =>
    intro c hc σ h hcu K
    refine b0_X8_next f n c (by omega) y σ h hcu (fun z => absurd z.1 (by omega)) (fun z => ?_)
    have e : wr σ 117 14 (nI c) = σ := by rw [← show σ.1 117 14 = nI c from hcu]; exact wr_self σ 117 14
    rw [skF, e] at K
    exact K
  | succ k ih =>
    intro c hc σ h hcu K
    refine b0_X8_next f n c (by omega) y σ h hcu (fun z => ?_) (fun z => ?_)
    · rw [skF, if_pos z] at K
      exact ih (c + 1) (by omega) _ (h.mv (mls_w (by decide))) (by unfold cuR; rw [wr_at]) (by rw [wr_wr]; exact K)
    · rw [skF, if_neg z] at K
      have e : wr σ 117 14 (nI c) = σ := by rw [← show σ.1 117 14 = nI c from hcu]; exact wr_self σ 117 14
      rw [e] at K
      exact K
