/-! ===== the text ===== -/
abbrev isd (f : Nat → Int32) (n s : Nat) : Prop := s < n ∧ 48 ≤ f s ∧ f s ≤ 57
def dgt (f : Nat → Int32) (n s : Nat) : Int32 := if isd f n s then f s - 48 else -1
abbrev atC (f : Nat → Int32) (n s : Nat) (c : Int32) : Prop := s < n ∧ f s = c
def skF (f : Nat → Int32) (n : Nat) : Nat → Nat → Nat
  | 0, a => a
  | k + 1, a => if a < n ∧ f a = 32 then skF f n k (a + 1) else a
def skp (f : Nat → Int32) (n a : Nat) : Nat := skF f n (n - a) a
theorem skp_step {f : Nat → Int32} {n a : Nat} (h : atC f n a 32) : skp f n a = skp f n (a + 1) := by
  unfold skp
  rw [show n - a = (n - (a + 1)) + 1 by omega, skF, if_pos h]
theorem skp_stay {f : Nat → Int32} {n a : Nat} (h : ¬ atC f n a 32) : skp f n a = a := by
  unfold skp
  cases hk : n - a with
  | zero => rfl
  | succ k => rw [skF, if_neg h]
theorem skF_ge {f : Nat → Int32} {n : Nat} : ∀ k a, a ≤ skF f n k a := by
  intro k
  induction k with
  | zero => intro a; exact Nat.le_refl a
  | succ k ih => intro a; rw [skF]; split; exact Nat.le_trans (Nat.le_succ a) (ih (a + 1)); exact Nat.le_refl a
theorem skF_le {f : Nat → Int32} {n : Nat} : ∀ k a, a + k ≤ n → skF f n k a ≤ n := by
  intro k
  induction k with
  | zero => intro a h; exact h
  | succ k ih => intro a h; rw [skF]; split; exact ih (a + 1) (by omega); omega
theorem skp_ge {f : Nat → Int32} {n a : Nat} : a ≤ skp f n a := skF_ge _ _
theorem skp_le {f : Nat → Int32} {n a : Nat} (h : a ≤ n) : skp f n a ≤ n := skF_le _ _ (by omega)
theorem skF_not {f : Nat → Int32} {n : Nat} : ∀ k a, a + k = n → ¬ atC f n (skF f n k a) 32 := by
  intro k
  induction k with
  | zero => intro a h z; have := z.1; rw [skF] at this; omega
  | succ k ih =>
    intro a h
    rw [skF]
    split
    · exact ih (a + 1) (by omega)
    · next h2 => exact h2
theorem skp_not {f : Nat → Int32} {n a : Nat} (h : a ≤ n) : ¬ atC f n (skp f n a) 32 := skF_not _ _ (by omega)
theorem lt120 {a n : Nat} (hn : n ≤ 120) (h : ¬ nI n ≤ nI a) (ha : a < 1000) : a < n := by
  rcases Nat.lt_or_ge a n with z | z
  · exact z
  · exact absurd (nI_le z (by omega)) h
theorem ge120 {a n : Nat} (hn : n ≤ 120) (h : nI n ≤ nI a) : n ≤ a := by
  rcases Nat.lt_or_ge a n with z | z
  · exact absurd h (nI_ge z (by omega))
  · exact z
theorem is120 {n a : Nat} (hn : n ≤ 120) (h : (120 : Int32) ≤ nI a) : ¬ a < n := fun z => absurd h (nI_ge (a := a) (b := 120) (by omega) (by decide))
set_option maxRecDepth 100000 in
theorem m_X6_isAt {S : Scr} (n : Nat) (hn : n ≤ 120) (a : Nat) (ha : a < 1000) (c : Int32) (σ : Sto) (hm : σ.1 1 1 = nI n) : Mt S yX6_isAt cX6_isAt 3 (some .boolean) 0 [.ref 1, .int (nI a), .int c] σ (Is (some (.int (bI (atC (σ.1 2) n a c)))) σ) := by
  refine mt_of (ls := [.ref 1, .int (nI a), .int c]) (by decide) rfl (Nat.le_of_ble_eq_true rfl) (by simp [Value.category]) ?_
  refine ev_iload_n_1 (pc := 0) dX6_isAt_0 ?_
  refine ev_if_lt (pc := 1) (tgt := 32) dX6_isAt_1 (by decide) (fun h1 => by exact absurd h1 (nI_pos (by omega))) (fun h1 => ?_)
  refine ev_iload_n_1 (pc := 4) dX6_isAt_4 ?_
  refine ev_aload_n_0 (pc := 5) dX6_isAt_5 ?_
  refine ev_getI (pc := 6) dX6_isAt_6 fl_X6_26 (by decide) (by decide) (by decide) ?_
  refine ev_icmp_ge (pc := 9) (tgt := 32) dX6_isAt_9 (by decide) (fun h9 => ?_) (fun h9 => ?_)
  · skip
    refine ev_iconst (pc := 32) (v := 0) dX6_isAt_32 (by decide) ?_
    exact ev_ireturn (pc := 33) dX6_isAt_33 rfl rfl (⟨by rw [hm] at h9; have h9 := ge120 hn h9; simp [bI, show ¬ a < n by omega], rfl⟩)
  · skip
    rw [hm] at h9
    have h9 := lt120 hn h9 ha
    refine ev_iload_n_1 (pc := 12) dX6_isAt_12 ?_
    refine ev_bipush (pc := 13) (v := 120) dX6_isAt_13 (by decide) ?_
    refine ev_icmp_ge (pc := 15) (tgt := 32) dX6_isAt_15 (by decide) (fun h15 => ?_) (fun h15 => ?_)
    · skip
      refine ev_iconst (pc := 32) (v := 0) dX6_isAt_32 (by decide) ?_
      exact ev_ireturn (pc := 33) dX6_isAt_33 rfl rfl (⟨by simp [bI, is120 hn h15], rfl⟩)
    · skip
      refine ev_aload_n_0 (pc := 18) dX6_isAt_18 ?_
      refine ev_getR (pc := 19) (r := 2) dX6_isAt_19 fl_X6_9 (by decide) (by decide) (by decide) (by decide) ?_
      refine ev_iload_n_1 (pc := 22) dX6_isAt_22 ?_
      refine ev_iaload' (pc := 23) (j := a) dX6_isAt_23 (by decide) (by decide) (show vp_in _ 120 from (vp_in_nI (by omega) (by decide))) (nI_clamp (by omega)) ?_
      refine ev_iload_n_2 (pc := 24) dX6_isAt_24 ?_
      refine ev_icmp_ne (pc := 25) (tgt := 32) dX6_isAt_25 (by decide) (fun h25 => ?_) (fun h25 => ?_)
      · skip
        refine ev_iconst (pc := 32) (v := 0) dX6_isAt_32 (by decide) ?_
        exact ev_ireturn (pc := 33) dX6_isAt_33 rfl rfl (⟨by simp [bI, h9, h25], rfl⟩)
      · skip
        refine ev_iconst (pc := 28) (v := 1) dX6_isAt_28 (by decide) ?_
        refine ev_goto (pc := 29) (tgt := 33) dX6_isAt_29 (by decide) ?_
        exact ev_ireturn (pc := 33) dX6_isAt_33 rfl rfl (⟨by simp [bI, h9, h25], rfl⟩)
set_option maxRecDepth 100000 in
theorem m_X6_digitAt {S : Scr} (n : Nat) (hn : n ≤ 120) (a : Nat) (ha : a < 1000) (σ : Sto) (hm : σ.1 1 1 = nI n) : Mt S yX6_digitAt cX6_digitAt 2 (some .int) 0 [.ref 1, .int (nI a)] σ (Is (some (.int (dgt (σ.1 2) n a))) σ) := by
  refine mt_of (ls := [.ref 1, .int (nI a)]) (by decide) rfl (Nat.le_of_ble_eq_true rfl) (by simp [Value.category]) ?_
  refine ev_iload_n_1 (pc := 0) dX6_digitAt_0 ?_
  refine ev_if_lt (pc := 1) (tgt := 40) dX6_digitAt_1 (by decide) (fun h1 => by exact absurd h1 (nI_pos (by omega))) (fun h1 => ?_)
  refine ev_iload_n_1 (pc := 4) dX6_digitAt_4 ?_
  refine ev_aload_n_0 (pc := 5) dX6_digitAt_5 ?_
  refine ev_getI (pc := 6) dX6_digitAt_6 fl_X6_26 (by decide) (by decide) (by decide) ?_
  refine ev_icmp_ge (pc := 9) (tgt := 40) dX6_digitAt_9 (by decide) (fun h9 => ?_) (fun h9 => ?_)
  · skip
    refine ev_iconst (pc := 40) (v := (-1)) dX6_digitAt_40 (by decide) ?_
    exact ev_ireturn (pc := 41) dX6_digitAt_41 rfl rfl (⟨by rw [hm] at h9; have h9 := ge120 hn h9; simp [dgt, isd, show ¬ a < n by omega], rfl⟩)
  · skip
    rw [hm] at h9
    have h9 := lt120 hn h9 ha
    refine ev_iload_n_1 (pc := 12) dX6_digitAt_12 ?_
    refine ev_bipush (pc := 13) (v := 120) dX6_digitAt_13 (by decide) ?_
    refine ev_icmp_ge (pc := 15) (tgt := 40) dX6_digitAt_15 (by decide) (fun h15 => ?_) (fun h15 => ?_)
    · skip
      refine ev_iconst (pc := 40) (v := (-1)) dX6_digitAt_40 (by decide) ?_
      exact ev_ireturn (pc := 41) dX6_digitAt_41 rfl rfl (⟨by simp [dgt, isd, is120 hn h15], rfl⟩)
    · skip
      refine ev_aload_n_0 (pc := 18) dX6_digitAt_18 ?_
      refine ev_getR (pc := 19) (r := 2) dX6_digitAt_19 fl_X6_9 (by decide) (by decide) (by decide) (by decide) ?_
      refine ev_iload_n_1 (pc := 22) dX6_digitAt_22 ?_
      refine ev_iaload' (pc := 23) (j := a) dX6_digitAt_23 (by decide) (by decide) (show vp_in _ 120 from (vp_in_nI (by omega) (by decide))) (nI_clamp (by omega)) ?_
      refine ev_bipush (pc := 24) (v := 48) dX6_digitAt_24 (by decide) ?_
      refine ev_icmp_lt (pc := 26) (tgt := 40) dX6_digitAt_26 (by decide) (fun h26 => ?_) (fun h26 => ?_)
      · skip
        refine ev_iconst (pc := 40) (v := (-1)) dX6_digitAt_40 (by decide) ?_
        exact ev_ireturn (pc := 41) dX6_digitAt_41 rfl rfl (⟨by rw [dgt, if_neg (fun z => absurd z.2.1 (Int32.not_le.mpr h26))], rfl⟩)
      · skip
        refine ev_aload_n_0 (pc := 29) dX6_digitAt_29 ?_
        refine ev_getR (pc := 30) (r := 2) dX6_digitAt_30 fl_X6_9 (by decide) (by decide) (by decide) (by decide) ?_
        refine ev_iload_n_1 (pc := 33) dX6_digitAt_33 ?_
        refine ev_iaload' (pc := 34) (j := a) dX6_digitAt_34 (by decide) (by decide) (show vp_in _ 120 from (vp_in_nI (by omega) (by decide))) (nI_clamp (by omega)) ?_
        refine ev_bipush (pc := 35) (v := 57) dX6_digitAt_35 (by decide) ?_
        refine ev_icmp_le (pc := 37) (tgt := 42) dX6_digitAt_37 (by decide) (fun h37 => ?_) (fun h37 => ?_)
        · skip
          refine ev_aload_n_0 (pc := 42) dX6_digitAt_42 ?_
          refine ev_getR (pc := 43) (r := 2) dX6_digitAt_43 fl_X6_9 (by decide) (by decide) (by decide) (by decide) ?_
          refine ev_iload_n_1 (pc := 46) dX6_digitAt_46 ?_
          refine ev_iaload' (pc := 47) (j := a) dX6_digitAt_47 (by decide) (by decide) (show vp_in _ 120 from (vp_in_nI (by omega) (by decide))) (nI_clamp (by omega)) ?_
          refine ev_bipush (pc := 48) (v := 48) dX6_digitAt_48 (by decide) ?_
          refine ev_isub (pc := 50) dX6_digitAt_50 ?_
          exact ev_ireturn (pc := 51) dX6_digitAt_51 rfl rfl (⟨by rw [dgt, if_pos ⟨h9, Int32.not_lt.mp h26, h37⟩], rfl⟩)
        · skip
          refine ev_iconst (pc := 40) (v := (-1)) dX6_digitAt_40 (by decide) ?_
          exact ev_ireturn (pc := 41) dX6_digitAt_41 rfl rfl (⟨by rw [dgt, if_neg (fun z => h37 z.2.2)], rfl⟩)
set_option maxRecDepth 100000 in
theorem m_X6_append {S : Scr} (k : Nat) (hk : k < 120) (c : Int32) (σ : Sto) (hm : σ.1 1 1 = nI k) : Mt S yX6_append cX6_append 2 (some .int) 0 [.ref 1, .int c] σ (Is (some (.int (nI (k + 1)))) (wr (wr σ 2 k c) 1 1 (nI (k + 1)))) := by
  refine mt_of (ls := [.ref 1, .int c]) (by decide) rfl (Nat.le_of_ble_eq_true rfl) (by simp [Value.category]) ?_
  refine ev_aload_n_0 (pc := 0) dX6_append_0 ?_
  refine ev_getI (pc := 1) dX6_append_1 fl_X6_26 (by decide) (by decide) (by decide) ?_
  refine ev_bipush (pc := 4) (v := 120) dX6_append_4 (by decide) ?_
  refine ev_icmp_ge (pc := 6) (tgt := 29) dX6_append_6 (by decide) (fun h6 => by exact absurd h6 (by rw [hm]; exact nI_ge (a := k) (b := 120) hk (by decide))) (fun h6 => ?_)
  refine ev_aload_n_0 (pc := 9) dX6_append_9 ?_
  refine ev_getR (pc := 10) (r := 2) dX6_append_10 fl_X6_9 (by decide) (by decide) (by decide) (by decide) ?_
  refine ev_aload_n_0 (pc := 13) dX6_append_13 ?_
  refine ev_getI (pc := 14) dX6_append_14 fl_X6_26 (by decide) (by decide) (by decide) ?_
  refine ev_iload_n_1 (pc := 17) dX6_append_17 ?_
  rw [hm]
  refine ev_iastore' (pc := 18) (j := k) dX6_append_18 (by decide) (by decide) (show vp_in _ 120 from (vp_in_nI hk (by decide))) (nI_clamp (by omega)) ?_
  refine ev_aload_n_0 (pc := 19) dX6_append_19 ?_
  refine ev_dup (pc := 20) dX6_append_20 rfl ?_
  refine ev_getI (pc := 21) dX6_append_21 fl_X6_26 (by decide) (by decide) (by decide) ?_
  rw [wr_ne (show 1 ≠ 2 by decide), hm]
  refine ev_iconst (pc := 24) (v := 1) dX6_append_24 (by decide) ?_
  refine ev_iadd (pc := 25) dX6_append_25 ?_
  rw [nI_s1]
  refine ev_putI (pc := 26) dX6_append_26 fl_X6_26 (by decide) (by decide) (by decide) ?_
  refine ev_aload_n_0 (pc := 29) dX6_append_29 ?_
  refine ev_getI (pc := 30) dX6_append_30 fl_X6_26 (by decide) (by decide) (by decide) ?_
  exact ev_ireturn (pc := 33) dX6_append_33 rfl rfl (⟨by rw [wr_at], rfl⟩)
set_option maxRecDepth 100000 in
theorem m_X6_empty {S : Scr}  (σ : Sto) : Mt S yX6_empty cX6_empty 2 (some .int) 0 [.ref 1] σ (Is (some (.int (σ.1 1 1))) (wr σ 1 1 0)) := by
  refine mt_of (ls := [.ref 1, .null]) (by decide) rfl (Nat.le_of_ble_eq_true rfl) (by simp [Value.category]) ?_
  refine ev_aload_n_0 (pc := 0) dX6_empty_0 ?_
  refine ev_getI (pc := 1) dX6_empty_1 fl_X6_26 (by decide) (by decide) (by decide) ?_
  refine ev_istore_n_1 (pc := 4) dX6_empty_4 (by decide) ?_
  refine ev_aload_n_0 (pc := 5) dX6_empty_5 ?_
  refine ev_iconst (pc := 6) (v := 0) dX6_empty_6 (by decide) ?_
  refine ev_putI (pc := 7) dX6_empty_7 fl_X6_26 (by decide) (by decide) (by decide) ?_
  refine ev_iload_n_1 (pc := 10) dX6_empty_10 ?_
  exact ev_ireturn (pc := 11) dX6_empty_11 rfl rfl (⟨rfl, rfl⟩)
set_option maxRecDepth 100000 in
theorem b_X6_skip {S : Scr} (n : Nat) (hn : n ≤ 120) (a : Nat) (ha : a ≤ n) (σ : Sto) (hm : σ.1 1 1 = nI n) (hp : σ.1 1 6 = nI a) {Q : Option Value → Sto → Prop} (K1 : atC (σ.1 2) n a 32 → Ev S RX6 cX6_skipBlanks 1 none 1 0 [.ref 1] [] (wr σ 1 6 (nI (a + 1))) (Q)) (K2 : ¬ atC (σ.1 2) n a 32 → Q none σ) : Ev S RX6 cX6_skipBlanks 1 none 1 0 [.ref 1] [] σ (Q) := by
  refine ev_aload_n_0 (pc := 0) dX6_skipBlanks_0 ?_
  refine ev_getI (pc := 1) dX6_skipBlanks_1 fl_X6_30 (by decide) (by decide) (by decide) ?_
  refine ev_aload_n_0 (pc := 4) dX6_skipBlanks_4 ?_
  refine ev_getI (pc := 5) dX6_skipBlanks_5 fl_X6_26 (by decide) (by decide) (by decide) ?_
  refine ev_icmp_ge (pc := 8) (tgt := 37) dX6_skipBlanks_8 (by decide) (fun h8 => ?_) (fun h8 => ?_)
  · skip
    exact ev_return (pc := 37) dX6_skipBlanks_37 rfl (K2 (fun z => by rw [hp, hm] at h8; have := ge120 hn h8; omega))
  · skip
    refine ev_aload_n_0 (pc := 11) dX6_skipBlanks_11 ?_
    refine ev_aload_n_0 (pc := 12) dX6_skipBlanks_12 ?_
    refine ev_getI (pc := 13) dX6_skipBlanks_13 fl_X6_30 (by decide) (by decide) (by decide) ?_
    refine ev_bipush (pc := 16) (v := 32) dX6_skipBlanks_16 (by decide) ?_
    rw [hp]
    refine ev_callV1 (pc := 18) dX6_skipBlanks_18 ml_X6_53 (m_X6_isAt n hn a (by omega) 32 σ hm) (by decide) ⟨_, rfl, rfl⟩ rfl (by decide) rfl (Nat.le_of_ble_eq_true rfl) ?_
    refine ev_if_eq (pc := 21) (tgt := 37) dX6_skipBlanks_21 (by decide) (fun h21 => ?_) (fun h21 => ?_)
    · skip
      exact ev_return (pc := 37) dX6_skipBlanks_37 rfl (K2 (bI0.mp h21))
    · skip
      refine ev_aload_n_0 (pc := 24) dX6_skipBlanks_24 ?_
      refine ev_dup (pc := 25) dX6_skipBlanks_25 rfl ?_
      refine ev_getI (pc := 26) dX6_skipBlanks_26 fl_X6_30 (by decide) (by decide) (by decide) ?_
      refine ev_iconst (pc := 29) (v := 1) dX6_skipBlanks_29 (by decide) ?_
      refine ev_iadd (pc := 30) dX6_skipBlanks_30 ?_
      rw [hp, nI_s1]
      refine ev_putI (pc := 31) dX6_skipBlanks_31 fl_X6_30 (by decide) (by decide) (by decide) ?_
      refine ev_goto (pc := 34) (tgt := 0) dX6_skipBlanks_34 (by decide) ?_
      exact K1 (by rw [bI0] at h21; exact Decidable.not_not.mp h21)
theorem wr_wr (σ : Sto) (k i : Nat) (x y : Int32) : wr (wr σ k i x) k i y = wr σ k i y := by
  refine Prod.ext (funext fun a => funext fun b => ?_) rfl
  unfold wr
  by_cases h : a = k ∧ b = i <;> simp [h]
theorem wr_self (σ : Sto) (k i : Nat) : wr σ k i (σ.1 k i) = σ := by
  refine Prod.ext (funext fun a => funext fun b => ?_) rfl
  unfold wr
  by_cases h : a = k ∧ b = i
  · obtain ⟨rfl, rfl⟩ := h; simp
  · simp [h]
theorem l_X6_skip {S : Scr} (n : Nat) (hn : n ≤ 120) (σ : Sto) (hm : σ.1 1 1 = nI n) : ∀ k a, a + k = n → Ev S RX6 cX6_skipBlanks 1 none 1 0 [.ref 1] [] (wr σ 1 6 (nI a)) (Is none (wr σ 1 6 (nI (skp (σ.1 2) n a)))) := by
  intro k
  induction k with
  | zero =>
    intro a ha
    refine b_X6_skip n hn a (by omega) _ (by rw [wr_nj (by decide)]; exact hm) wr_at (fun h => absurd h.1 (by omega)) (fun h => ⟨rfl, ?_⟩)
    rw [wr_ne (show 2 ≠ 1 by decide)] at h
    rw [skp_stay h]
  | succ k ih =>
    intro a ha
    refine b_X6_skip n hn a (by omega) _ (by rw [wr_nj (by decide)]; exact hm) wr_at (fun h => ?_) (fun h => ⟨rfl, ?_⟩)
    · rw [wr_ne (show 2 ≠ 1 by decide)] at h
      rw [wr_wr, skp_step h]
      exact ih (a + 1) (by omega)
    · rw [wr_ne (show 2 ≠ 1 by decide)] at h
      rw [skp_stay h]
theorem m_X6_skip {S : Scr} (n : Nat) (hn : n ≤ 120) (a : Nat) (ha : a ≤ n) (σ : Sto) (hm : σ.1 1 1 = nI n) (hp : σ.1 1 6 = nI a) : Mt S yX6_skipBlanks cX6_skipBlanks 1 none 1 [.ref 1] σ (Is none (wr σ 1 6 (nI (skp (σ.1 2) n a)))) := by
  refine mt_of (ls := [.ref 1]) (by decide) rfl (Nat.le_of_ble_eq_true rfl) (by simp [Value.category]) ?_
  have h := l_X6_skip (S := S) n hn σ hm (n - a) a (by omega)
  rw [← hp, wr_self] at h
  exact h
/-- where the k-th token stands, if each ahead of it is of one letter -/
def psn (f : Nat → Int32) (n a : Nat) : Nat → Nat
  | 0 => skp f n a
  | k + 1 => skp f n (psn f n a k + 1)
abbrev limI (k : Nat) : Int32 := ([5, 5, 5, 5, 2, 1] : List Int32).getD k 0
abbrev numOk (f : Nat → Int32) (n s : Nat) (l : Int32) : Prop := ¬ dgt f n s < 0 ∧ ¬ l < dgt f n s ∧ dgt f n (s + 1) < 0
/-- a row's end: all numbers and the stop -/
abbrev rowOk (f : Nat → Int32) (n a m : Nat) : Prop := (∀ k, k < m → numOk f n (psn f n a k) (limI k)) ∧ atC f n (psn f n a m) 59
/-- the place of the first token that can't stand in a row -/
abbrev rowBad (f : Nat → Int32) (n a m z : Nat) : Prop := ∃ k, k ≤ m ∧ z = psn f n a k ∧ (∀ i, i < k → numOk f n (psn f n a i) (limI i)) ∧ (k < m → ¬ numOk f n (psn f n a k) (limI k)) ∧ (k = m → ¬ atC f n (psn f n a m) 59)
theorem dgt_lt {f : Nat → Int32} {n s : Nat} (h : ¬ dgt f n s < 0) : s < n := by
  unfold dgt at h
  by_cases q : isd f n s
  · exact q.1
  · rw [if_neg q] at h; exact absurd (by decide) h
theorem psn_le {f : Nat → Int32} {n a : Nat} (ha : a ≤ n) : ∀ k, (∀ i, i < k → numOk f n (psn f n a i) (limI i)) → psn f n a k ≤ n := by
  intro k
  cases k with
  | zero => intro _; exact skp_le ha
  | succ k => intro h; exact skp_le (dgt_lt (h k (Nat.lt_succ_self k)).1)
/-- reading a row into the array w: place and w alone change -/
def rrI (σ : Sto) (n a w k : Nat) (τ : Sto) : Prop := τ.2 = σ.2 ∧ (∀ c j, c ≠ w → (c ≠ 1 ∨ j ≠ 6) → τ.1 c j = σ.1 c j) ∧ (∀ i, i < k → τ.1 w i = dgt (σ.1 2) n (psn (σ.1 2) n a i)) ∧ ∀ i, k ≤ i → τ.1 w i = σ.1 w i
theorem wr_wr6 {σ : Sto} {w k : Nat} {x y z : Int32} (h : w ≠ 1) : wr (wr (wr σ 1 6 x) w k y) 1 6 z = wr (wr σ w k y) 1 6 z := by
  refine Prod.ext (funext fun a => funext fun b => ?_) rfl
  unfold wr
  by_cases h1 : a = 1
  · subst h1
    by_cases h2 : b = 6 <;> simp [h2, Ne.symm h]
  · simp [h1]
theorem rrMove {σ τ : Sto} {n a w k : Nat} {x : Int32} (hI : rrI σ n a w k τ) (hw1 : w ≠ 1) : rrI σ n a w k (wr τ 1 6 x) := by
  refine ⟨hI.1, fun c j h1 h2 => ?_, fun i hi => ?_, fun i hi => ?_⟩
  · by_cases c1 : c = 1
    · subst c1; rw [wr_nj (by omega)]; exact hI.2.1 1 j h1 h2
    · rw [wr_ne c1]; exact hI.2.1 c j h1 h2
  · rw [wr_ne hw1]; exact hI.2.2.1 i hi
  · rw [wr_ne hw1]; exact hI.2.2.2 i hi
def rrP6 (σ : Sto) (n a w : Nat) (r : Option Value) (τ : Sto) : Prop := (r = some (.int 1) ∧ rowOk (σ.1 2) n a 6 ∧ rrI σ n a w 6 τ ∧ τ.1 1 6 = nI (psn (σ.1 2) n a 6 + 1)) ∨ (r = some (.int 0) ∧ ∃ k z, rowBad (σ.1 2) n a 6 z ∧ rrI σ n a w k τ ∧ τ.1 1 6 = nI z)
theorem rrFail6 {σ τ : Sto} {n a w : Nat} {k0 : Nat} (hI : rrI σ n a w k0 τ) (hw1 : w ≠ 1) (k : Nat) (hk : k < 6) (hok : ∀ i, i < k → numOk (σ.1 2) n (psn (σ.1 2) n a i) (limI i)) (hno : ¬ numOk (σ.1 2) n (psn (σ.1 2) n a k) (limI k)) : rrP6 σ n a w (some (.int 0)) (wr τ 1 6 (nI (psn (σ.1 2) n a k))) := by
  refine Or.inr ⟨rfl, k0, psn (σ.1 2) n a k, ⟨k, by omega, rfl, hok, fun _ => hno, fun h => by omega⟩, ⟨hI.1, fun c j h1 h2 => ?_, fun i hi => ?_, fun i hi => ?_⟩, wr_at⟩
  · by_cases c1 : c = 1
    · subst c1; rw [wr_nj (by omega)]; exact hI.2.1 1 j h1 h2
    · rw [wr_ne c1]; exact hI.2.1 c j h1 h2
  · rw [wr_ne hw1]; exact hI.2.2.1 i hi
  · rw [wr_ne hw1]; exact hI.2.2.2 i hi
set_option maxRecDepth 100000 in
theorem b6_X6_readRow_0 {S : Scr} (n : Nat) (hn : n ≤ 120) (a : Nat) (ha : a ≤ n) {w : Nat} (hw : IsA w 6) (hw1 : w ≠ 1) (hw2 : w ≠ 2) (σ τ : Sto) (hm : σ.1 1 1 = nI n) (hI : rrI σ n a w 0 τ) (hp : τ.1 1 6 = nI a) (hok : ∀ i, i < 0 → numOk (σ.1 2) n (psn (σ.1 2) n a i) (limI i)) (K : ∀ τ2, rrI σ n a w 1 τ2 → τ2.1 1 6 = nI (psn (σ.1 2) n a 0 + 1) → (∀ i, i < 1 → numOk (σ.1 2) n (psn (σ.1 2) n a i) (limI i)) → Ev S RX6 cX6_readRow 4 (some .boolean) 2 2 [.ref 1, .ref w, .int 1, .null] [] τ2 (fun r τ => rrP6 σ n a w r τ)) : Ev S RX6 cX6_readRow 4 (some .boolean) 2 2 [.ref 1, .ref w, .int 0, .null] [] τ (fun r τ => rrP6 σ n a w r τ) := by
  refine ev_iload_n_2 (pc := 2) dX6_readRow_2 ?_
  refine ev_aload_n_1 (pc := 3) dX6_readRow_3 ?_
  refine ev_arraylength (pc := 4) (v := 6) dX6_readRow_4 hw.1 (c := 10) hw.2.1 (by decide) (by rw [hw.2.2]; decide) ?_
  refine ev_icmp_ge (pc := 5) (tgt := 77) dX6_readRow_5 (by decide) (fun h5 => by exact absurd h5 (by decide)) (fun h5 => ?_)
  refine ev_iload_n_2 (pc := 8) dX6_readRow_8 ?_
  refine ev_getLim (pc := 9) dX6_readRow_9 rfl ?_
  refine ev_limlen (pc := 12) (v := 6) dX6_readRow_12 (by decide) ?_
  refine ev_icmp_ge (pc := 13) (tgt := 77) dX6_readRow_13 (by decide) (fun h13 => by exact absurd h13 (by decide)) (fun h13 => ?_)
  have e2 : τ.1 2 = σ.1 2 := funext fun j => hI.2.1 2 j (Ne.symm hw2) (Or.inl (by decide))
  have em : τ.1 1 1 = nI n := (hI.2.1 1 1 (Ne.symm hw1) (Or.inr (by decide))).trans hm
  refine ev_aload_n_0 (pc := 16) dX6_readRow_16 ?_
  refine ev_callV0 (pc := 17) dX6_readRow_17 ml_X6_46 (m_X6_skip n hn a ha τ em hp) (by decide) ⟨_, rfl, rfl⟩ rfl (by decide) rfl (Nat.le_of_ble_eq_true rfl) ?_
  rw [e2, show skp (σ.1 2) n a = psn (σ.1 2) n a 0 from rfl]
  have em2 : (wr τ 1 6 (nI (psn (σ.1 2) n a 0))).1 1 1 = nI n := by rw [wr_nj (by decide)]; exact em
  have e22 : (wr τ 1 6 (nI (psn (σ.1 2) n a 0))).1 2 = σ.1 2 := by rw [wr_ne (by decide)]; exact e2
  refine ev_aload_n_0 (pc := 20) dX6_readRow_20 ?_
  refine ev_aload_n_0 (pc := 21) dX6_readRow_21 ?_
  refine ev_getI (pc := 22) dX6_readRow_22 fl_X6_30 (by decide) (by decide) (by decide) ?_
  rw [wr_at]
  refine ev_callV1 (pc := 25) dX6_readRow_25 ml_X6_61 (m_X6_digitAt n hn (psn (σ.1 2) n a 0) (by have := psn_le (f := σ.1 2) ha 0 hok; omega) _ em2) (by decide) ⟨_, rfl, rfl⟩ rfl (by decide) rfl (Nat.le_of_ble_eq_true rfl) ?_
  rw [e22]
  refine ev_istore_n_3 (pc := 28) dX6_readRow_28 (by decide) ?_
  refine ev_iload_n_3 (pc := 29) dX6_readRow_29 ?_
  refine ev_if_lt (pc := 30) (tgt := 55) dX6_readRow_30 (by decide) (fun h30 => ?_) (fun h30 => ?_)
  · skip
    refine ev_iconst (pc := 55) (v := 0) dX6_readRow_55 (by decide) ?_
    exact ev_ireturn (pc := 56) dX6_readRow_56 rfl rfl (rrFail6 hI hw1 0 (by decide) hok (fun z => z.1 h30))
  · skip
    refine ev_iload_n_3 (pc := 33) dX6_readRow_33 ?_
    refine ev_getLim (pc := 34) dX6_readRow_34 rfl ?_
    refine ev_iload_n_2 (pc := 37) dX6_readRow_37 ?_
    refine ev_limld (pc := 38) (v := 5) dX6_readRow_38 (vin_c (by decide)) (by decide) ?_
    refine ev_icmp_gt (pc := 39) (tgt := 55) dX6_readRow_39 (by decide) (fun h39 => ?_) (fun h39 => ?_)
    · skip
      refine ev_iconst (pc := 55) (v := 0) dX6_readRow_55 (by decide) ?_
      exact ev_ireturn (pc := 56) dX6_readRow_56 rfl rfl (rrFail6 hI hw1 0 (by decide) hok (fun z => z.2.1 h39))
    · skip
      refine ev_aload_n_0 (pc := 42) dX6_readRow_42 ?_
      refine ev_aload_n_0 (pc := 43) dX6_readRow_43 ?_
      refine ev_getI (pc := 44) dX6_readRow_44 fl_X6_30 (by decide) (by decide) (by decide) ?_
      refine ev_iconst (pc := 47) (v := 1) dX6_readRow_47 (by decide) ?_
      
      refine ev_iadd (pc := 48) dX6_readRow_48 ?_
      rw [wr_at, nI_s1]
      refine ev_callV1 (pc := 49) dX6_readRow_49 ml_X6_61 (m_X6_digitAt n hn (psn (σ.1 2) n a 0 + 1) (by have := (by have := psn_le (f := σ.1 2) ha 0 hok; omega); omega) _ em2) (by decide) ⟨_, rfl, rfl⟩ rfl (by decide) rfl (Nat.le_of_ble_eq_true rfl) ?_
      rw [e22]
      refine ev_if_lt (pc := 52) (tgt := 57) dX6_readRow_52 (by decide) (fun h52 => ?_) (fun h52 => ?_)
      · skip
        refine ev_aload_n_1 (pc := 57) dX6_readRow_57 ?_
        refine ev_iload_n_2 (pc := 58) dX6_readRow_58 ?_
        refine ev_iload_n_3 (pc := 59) dX6_readRow_59 ?_
        refine ev_iastore' (pc := 60) (j := 0) dX6_readRow_60 hw.1 hw.2.1 (by rw [hw.2.2]; exact (vin_c (by decide))) (by decide) ?_
        refine ev_aload_n_0 (pc := 61) dX6_readRow_61 ?_
        refine ev_dup (pc := 62) dX6_readRow_62 rfl ?_
        refine ev_getI (pc := 63) dX6_readRow_63 fl_X6_30 (by decide) (by decide) (by decide) ?_
        
        refine ev_iconst (pc := 66) (v := 1) dX6_readRow_66 (by decide) ?_
        refine ev_iadd (pc := 67) dX6_readRow_67 ?_
        rw [wr_ne (Ne.symm hw1), wr_at, nI_s1]
        refine ev_putI (pc := 68) dX6_readRow_68 fl_X6_30 (by decide) (by decide) (by decide) ?_
        rw [wr_wr6 hw1]
        refine ev_iinc_2 (pc := 71) (v := 1) dX6_readRow_71 (by decide) (by decide) ?_
        refine ev_goto (pc := 74) (tgt := 2) dX6_readRow_74 (by decide) ?_
        refine ev_null_3 ?_
        refine K _ ⟨hI.1, fun c j h1 h2 => ?_, fun i hi => ?_, fun i hi => ?_⟩ wr_at (fun i hi => ?_)
        · by_cases c1 : c = 1
          · subst c1; rw [wr_nj (by omega), wr_ne h1]; exact hI.2.1 1 j h1 h2
          · rw [wr_ne c1, wr_ne h1]; exact hI.2.1 c j h1 h2
        · rw [wr_ne hw1]
          by_cases e : i = 0
          · rw [e, wr_at]
          · rw [wr_nj e]; exact hI.2.2.1 i (by omega)
        · rw [wr_ne hw1, wr_nj (by omega)]; exact hI.2.2.2 i (by omega)
        · by_cases e : i = 0
          · rw [e]; exact ⟨h30, h39, h52⟩
          · exact hok i (by omega)
      · skip
        refine ev_iconst (pc := 55) (v := 0) dX6_readRow_55 (by decide) ?_
        exact ev_ireturn (pc := 56) dX6_readRow_56 rfl rfl (rrFail6 hI hw1 0 (by decide) hok (fun z => h52 z.2.2))
set_option maxRecDepth 100000 in
theorem b6_X6_readRow_1 {S : Scr} (n : Nat) (hn : n ≤ 120) (a : Nat) (ha : a ≤ n) {w : Nat} (hw : IsA w 6) (hw1 : w ≠ 1) (hw2 : w ≠ 2) (σ τ : Sto) (hm : σ.1 1 1 = nI n) (hI : rrI σ n a w 1 τ) (hp : τ.1 1 6 = nI (psn (σ.1 2) n a 0 + 1)) (hok : ∀ i, i < 1 → numOk (σ.1 2) n (psn (σ.1 2) n a i) (limI i)) (K : ∀ τ2, rrI σ n a w 2 τ2 → τ2.1 1 6 = nI (psn (σ.1 2) n a 1 + 1) → (∀ i, i < 2 → numOk (σ.1 2) n (psn (σ.1 2) n a i) (limI i)) → Ev S RX6 cX6_readRow 4 (some .boolean) 2 2 [.ref 1, .ref w, .int 2, .null] [] τ2 (fun r τ => rrP6 σ n a w r τ)) : Ev S RX6 cX6_readRow 4 (some .boolean) 2 2 [.ref 1, .ref w, .int 1, .null] [] τ (fun r τ => rrP6 σ n a w r τ) := by
  refine ev_iload_n_2 (pc := 2) dX6_readRow_2 ?_
  refine ev_aload_n_1 (pc := 3) dX6_readRow_3 ?_
  refine ev_arraylength (pc := 4) (v := 6) dX6_readRow_4 hw.1 (c := 10) hw.2.1 (by decide) (by rw [hw.2.2]; decide) ?_
  refine ev_icmp_ge (pc := 5) (tgt := 77) dX6_readRow_5 (by decide) (fun h5 => by exact absurd h5 (by decide)) (fun h5 => ?_)
  refine ev_iload_n_2 (pc := 8) dX6_readRow_8 ?_
  refine ev_getLim (pc := 9) dX6_readRow_9 rfl ?_
  refine ev_limlen (pc := 12) (v := 6) dX6_readRow_12 (by decide) ?_
  refine ev_icmp_ge (pc := 13) (tgt := 77) dX6_readRow_13 (by decide) (fun h13 => by exact absurd h13 (by decide)) (fun h13 => ?_)
  have e2 : τ.1 2 = σ.1 2 := funext fun j => hI.2.1 2 j (Ne.symm hw2) (Or.inl (by decide))
  have em : τ.1 1 1 = nI n := (hI.2.1 1 1 (Ne.symm hw1) (Or.inr (by decide))).trans hm
  refine ev_aload_n_0 (pc := 16) dX6_readRow_16 ?_
  refine ev_callV0 (pc := 17) dX6_readRow_17 ml_X6_46 (m_X6_skip n hn (psn (σ.1 2) n a 0 + 1) (dgt_lt (hok 0 (by decide)).1) τ em hp) (by decide) ⟨_, rfl, rfl⟩ rfl (by decide) rfl (Nat.le_of_ble_eq_true rfl) ?_
  rw [e2, show skp (σ.1 2) n (psn (σ.1 2) n a 0 + 1) = psn (σ.1 2) n a 1 from rfl]
  have em2 : (wr τ 1 6 (nI (psn (σ.1 2) n a 1))).1 1 1 = nI n := by rw [wr_nj (by decide)]; exact em
  have e22 : (wr τ 1 6 (nI (psn (σ.1 2) n a 1))).1 2 = σ.1 2 := by rw [wr_ne (by decide)]; exact e2
  refine ev_aload_n_0 (pc := 20) dX6_readRow_20 ?_
  refine ev_aload_n_0 (pc := 21) dX6_readRow_21 ?_
  refine ev_getI (pc := 22) dX6_readRow_22 fl_X6_30 (by decide) (by decide) (by decide) ?_
  rw [wr_at]
  refine ev_callV1 (pc := 25) dX6_readRow_25 ml_X6_61 (m_X6_digitAt n hn (psn (σ.1 2) n a 1) (by have := psn_le (f := σ.1 2) ha 1 hok; omega) _ em2) (by decide) ⟨_, rfl, rfl⟩ rfl (by decide) rfl (Nat.le_of_ble_eq_true rfl) ?_
  rw [e22]
  refine ev_istore_n_3 (pc := 28) dX6_readRow_28 (by decide) ?_
  refine ev_iload_n_3 (pc := 29) dX6_readRow_29 ?_
  refine ev_if_lt (pc := 30) (tgt := 55) dX6_readRow_30 (by decide) (fun h30 => ?_) (fun h30 => ?_)
  · skip
    refine ev_iconst (pc := 55) (v := 0) dX6_readRow_55 (by decide) ?_
    exact ev_ireturn (pc := 56) dX6_readRow_56 rfl rfl (rrFail6 hI hw1 1 (by decide) hok (fun z => z.1 h30))
  · skip
    refine ev_iload_n_3 (pc := 33) dX6_readRow_33 ?_
    refine ev_getLim (pc := 34) dX6_readRow_34 rfl ?_
    refine ev_iload_n_2 (pc := 37) dX6_readRow_37 ?_
    refine ev_limld (pc := 38) (v := 5) dX6_readRow_38 (vin_c (by decide)) (by decide) ?_
    refine ev_icmp_gt (pc := 39) (tgt := 55) dX6_readRow_39 (by decide) (fun h39 => ?_) (fun h39 => ?_)
    · skip
      refine ev_iconst (pc := 55) (v := 0) dX6_readRow_55 (by decide) ?_
      exact ev_ireturn (pc := 56) dX6_readRow_56 rfl rfl (rrFail6 hI hw1 1 (by decide) hok (fun z => z.2.1 h39))
    · skip
      refine ev_aload_n_0 (pc := 42) dX6_readRow_42 ?_
      refine ev_aload_n_0 (pc := 43) dX6_readRow_43 ?_
      refine ev_getI (pc := 44) dX6_readRow_44 fl_X6_30 (by decide) (by decide) (by decide) ?_
      refine ev_iconst (pc := 47) (v := 1) dX6_readRow_47 (by decide) ?_
      
      refine ev_iadd (pc := 48) dX6_readRow_48 ?_
      rw [wr_at, nI_s1]
      refine ev_callV1 (pc := 49) dX6_readRow_49 ml_X6_61 (m_X6_digitAt n hn (psn (σ.1 2) n a 1 + 1) (by have := (by have := psn_le (f := σ.1 2) ha 1 hok; omega); omega) _ em2) (by decide) ⟨_, rfl, rfl⟩ rfl (by decide) rfl (Nat.le_of_ble_eq_true rfl) ?_
      rw [e22]
      refine ev_if_lt (pc := 52) (tgt := 57) dX6_readRow_52 (by decide) (fun h52 => ?_) (fun h52 => ?_)
      · skip
        refine ev_aload_n_1 (pc := 57) dX6_readRow_57 ?_
        refine ev_iload_n_2 (pc := 58) dX6_readRow_58 ?_
        refine ev_iload_n_3 (pc := 59) dX6_readRow_59 ?_
        refine ev_iastore' (pc := 60) (j := 1) dX6_readRow_60 hw.1 hw.2.1 (by rw [hw.2.2]; exact (vin_c (by decide))) (by decide) ?_
        refine ev_aload_n_0 (pc := 61) dX6_readRow_61 ?_
        refine ev_dup (pc := 62) dX6_readRow_62 rfl ?_
        refine ev_getI (pc := 63) dX6_readRow_63 fl_X6_30 (by decide) (by decide) (by decide) ?_
        
        refine ev_iconst (pc := 66) (v := 1) dX6_readRow_66 (by decide) ?_
        refine ev_iadd (pc := 67) dX6_readRow_67 ?_
        rw [wr_ne (Ne.symm hw1), wr_at, nI_s1]
        refine ev_putI (pc := 68) dX6_readRow_68 fl_X6_30 (by decide) (by decide) (by decide) ?_
        rw [wr_wr6 hw1]
        refine ev_iinc_2 (pc := 71) (v := 2) dX6_readRow_71 (by decide) (by decide) ?_
        refine ev_goto (pc := 74) (tgt := 2) dX6_readRow_74 (by decide) ?_
        refine ev_null_3 ?_
        refine K _ ⟨hI.1, fun c j h1 h2 => ?_, fun i hi => ?_, fun i hi => ?_⟩ wr_at (fun i hi => ?_)
        · by_cases c1 : c = 1
          · subst c1; rw [wr_nj (by omega), wr_ne h1]; exact hI.2.1 1 j h1 h2
          · rw [wr_ne c1, wr_ne h1]; exact hI.2.1 c j h1 h2
        · rw [wr_ne hw1]
          by_cases e : i = 1
          · rw [e, wr_at]
          · rw [wr_nj e]; exact hI.2.2.1 i (by omega)
        · rw [wr_ne hw1, wr_nj (by omega)]; exact hI.2.2.2 i (by omega)
        · by_cases e : i = 1
          · rw [e]; exact ⟨h30, h39, h52⟩
          · exact hok i (by omega)
      · skip
        refine ev_iconst (pc := 55) (v := 0) dX6_readRow_55 (by decide) ?_
        exact ev_ireturn (pc := 56) dX6_readRow_56 rfl rfl (rrFail6 hI hw1 1 (by decide) hok (fun z => h52 z.2.2))
set_option maxRecDepth 100000 in
theorem b6_X6_readRow_2 {S : Scr} (n : Nat) (hn : n ≤ 120) (a : Nat) (ha : a ≤ n) {w : Nat} (hw : IsA w 6) (hw1 : w ≠ 1) (hw2 : w ≠ 2) (σ τ : Sto) (hm : σ.1 1 1 = nI n) (hI : rrI σ n a w 2 τ) (hp : τ.1 1 6 = nI (psn (σ.1 2) n a 1 + 1)) (hok : ∀ i, i < 2 → numOk (σ.1 2) n (psn (σ.1 2) n a i) (limI i)) (K : ∀ τ2, rrI σ n a w 3 τ2 → τ2.1 1 6 = nI (psn (σ.1 2) n a 2 + 1) → (∀ i, i < 3 → numOk (σ.1 2) n (psn (σ.1 2) n a i) (limI i)) → Ev S RX6 cX6_readRow 4 (some .boolean) 2 2 [.ref 1, .ref w, .int 3, .null] [] τ2 (fun r τ => rrP6 σ n a w r τ)) : Ev S RX6 cX6_readRow 4 (some .boolean) 2 2 [.ref 1, .ref w, .int 2, .null] [] τ (fun r τ => rrP6 σ n a w r τ) := by
  refine ev_iload_n_2 (pc := 2) dX6_readRow_2 ?_
  refine ev_aload_n_1 (pc := 3) dX6_readRow_3 ?_
  refine ev_arraylength (pc := 4) (v := 6) dX6_readRow_4 hw.1 (c := 10) hw.2.1 (by decide) (by rw [hw.2.2]; decide) ?_
  refine ev_icmp_ge (pc := 5) (tgt := 77) dX6_readRow_5 (by decide) (fun h5 => by exact absurd h5 (by decide)) (fun h5 => ?_)
  refine ev_iload_n_2 (pc := 8) dX6_readRow_8 ?_
  refine ev_getLim (pc := 9) dX6_readRow_9 rfl ?_
  refine ev_limlen (pc := 12) (v := 6) dX6_readRow_12 (by decide) ?_
  refine ev_icmp_ge (pc := 13) (tgt := 77) dX6_readRow_13 (by decide) (fun h13 => by exact absurd h13 (by decide)) (fun h13 => ?_)
  have e2 : τ.1 2 = σ.1 2 := funext fun j => hI.2.1 2 j (Ne.symm hw2) (Or.inl (by decide))
  have em : τ.1 1 1 = nI n := (hI.2.1 1 1 (Ne.symm hw1) (Or.inr (by decide))).trans hm
  refine ev_aload_n_0 (pc := 16) dX6_readRow_16 ?_
  refine ev_callV0 (pc := 17) dX6_readRow_17 ml_X6_46 (m_X6_skip n hn (psn (σ.1 2) n a 1 + 1) (dgt_lt (hok 1 (by decide)).1) τ em hp) (by decide) ⟨_, rfl, rfl⟩ rfl (by decide) rfl (Nat.le_of_ble_eq_true rfl) ?_
  rw [e2, show skp (σ.1 2) n (psn (σ.1 2) n a 1 + 1) = psn (σ.1 2) n a 2 from rfl]
  have em2 : (wr τ 1 6 (nI (psn (σ.1 2) n a 2))).1 1 1 = nI n := by rw [wr_nj (by decide)]; exact em
  have e22 : (wr τ 1 6 (nI (psn (σ.1 2) n a 2))).1 2 = σ.1 2 := by rw [wr_ne (by decide)]; exact e2
  refine ev_aload_n_0 (pc := 20) dX6_readRow_20 ?_
  refine ev_aload_n_0 (pc := 21) dX6_readRow_21 ?_
  refine ev_getI (pc := 22) dX6_readRow_22 fl_X6_30 (by decide) (by decide) (by decide) ?_
  rw [wr_at]
  refine ev_callV1 (pc := 25) dX6_readRow_25 ml_X6_61 (m_X6_digitAt n hn (psn (σ.1 2) n a 2) (by have := psn_le (f := σ.1 2) ha 2 hok; omega) _ em2) (by decide) ⟨_, rfl, rfl⟩ rfl (by decide) rfl (Nat.le_of_ble_eq_true rfl) ?_
  rw [e22]
  refine ev_istore_n_3 (pc := 28) dX6_readRow_28 (by decide) ?_
  refine ev_iload_n_3 (pc := 29) dX6_readRow_29 ?_
  refine ev_if_lt (pc := 30) (tgt := 55) dX6_readRow_30 (by decide) (fun h30 => ?_) (fun h30 => ?_)
  · skip
    refine ev_iconst (pc := 55) (v := 0) dX6_readRow_55 (by decide) ?_
    exact ev_ireturn (pc := 56) dX6_readRow_56 rfl rfl (rrFail6 hI hw1 2 (by decide) hok (fun z => z.1 h30))
  · skip
    refine ev_iload_n_3 (pc := 33) dX6_readRow_33 ?_
    refine ev_getLim (pc := 34) dX6_readRow_34 rfl ?_
    refine ev_iload_n_2 (pc := 37) dX6_readRow_37 ?_
    refine ev_limld (pc := 38) (v := 5) dX6_readRow_38 (vin_c (by decide)) (by decide) ?_
    refine ev_icmp_gt (pc := 39) (tgt := 55) dX6_readRow_39 (by decide) (fun h39 => ?_) (fun h39 => ?_)
    · skip
      refine ev_iconst (pc := 55) (v := 0) dX6_readRow_55 (by decide) ?_
      exact ev_ireturn (pc := 56) dX6_readRow_56 rfl rfl (rrFail6 hI hw1 2 (by decide) hok (fun z => z.2.1 h39))
    · skip
      refine ev_aload_n_0 (pc := 42) dX6_readRow_42 ?_
      refine ev_aload_n_0 (pc := 43) dX6_readRow_43 ?_
      refine ev_getI (pc := 44) dX6_readRow_44 fl_X6_30 (by decide) (by decide) (by decide) ?_
      refine ev_iconst (pc := 47) (v := 1) dX6_readRow_47 (by decide) ?_
      
      refine ev_iadd (pc := 48) dX6_readRow_48 ?_
      rw [wr_at, nI_s1]
      refine ev_callV1 (pc := 49) dX6_readRow_49 ml_X6_61 (m_X6_digitAt n hn (psn (σ.1 2) n a 2 + 1) (by have := (by have := psn_le (f := σ.1 2) ha 2 hok; omega); omega) _ em2) (by decide) ⟨_, rfl, rfl⟩ rfl (by decide) rfl (Nat.le_of_ble_eq_true rfl) ?_
      rw [e22]
      refine ev_if_lt (pc := 52) (tgt := 57) dX6_readRow_52 (by decide) (fun h52 => ?_) (fun h52 => ?_)
      · skip
        refine ev_aload_n_1 (pc := 57) dX6_readRow_57 ?_
        refine ev_iload_n_2 (pc := 58) dX6_readRow_58 ?_
        refine ev_iload_n_3 (pc := 59) dX6_readRow_59 ?_
        refine ev_iastore' (pc := 60) (j := 2) dX6_readRow_60 hw.1 hw.2.1 (by rw [hw.2.2]; exact (vin_c (by decide))) (by decide) ?_
        refine ev_aload_n_0 (pc := 61) dX6_readRow_61 ?_
        refine ev_dup (pc := 62) dX6_readRow_62 rfl ?_
        refine ev_getI (pc := 63) dX6_readRow_63 fl_X6_30 (by decide) (by decide) (by decide) ?_
        
        refine ev_iconst (pc := 66) (v := 1) dX6_readRow_66 (by decide) ?_
        refine ev_iadd (pc := 67) dX6_readRow_67 ?_
        rw [wr_ne (Ne.symm hw1), wr_at, nI_s1]
        refine ev_putI (pc := 68) dX6_readRow_68 fl_X6_30 (by decide) (by decide) (by decide) ?_
        rw [wr_wr6 hw1]
        refine ev_iinc_2 (pc := 71) (v := 3) dX6_readRow_71 (by decide) (by decide) ?_
        refine ev_goto (pc := 74) (tgt := 2) dX6_readRow_74 (by decide) ?_
        refine ev_null_3 ?_
        refine K _ ⟨hI.1, fun c j h1 h2 => ?_, fun i hi => ?_, fun i hi => ?_⟩ wr_at (fun i hi => ?_)
        · by_cases c1 : c = 1
          · subst c1; rw [wr_nj (by omega), wr_ne h1]; exact hI.2.1 1 j h1 h2
          · rw [wr_ne c1, wr_ne h1]; exact hI.2.1 c j h1 h2
        · rw [wr_ne hw1]
          by_cases e : i = 2
          · rw [e, wr_at]
          · rw [wr_nj e]; exact hI.2.2.1 i (by omega)
        · rw [wr_ne hw1, wr_nj (by omega)]; exact hI.2.2.2 i (by omega)
        · by_cases e : i = 2
          · rw [e]; exact ⟨h30, h39, h52⟩
          · exact hok i (by omega)
      · skip
        refine ev_iconst (pc := 55) (v := 0) dX6_readRow_55 (by decide) ?_
        exact ev_ireturn (pc := 56) dX6_readRow_56 rfl rfl (rrFail6 hI hw1 2 (by decide) hok (fun z => h52 z.2.2))
set_option maxRecDepth 100000 in
theorem b6_X6_readRow_3 {S : Scr} (n : Nat) (hn : n ≤ 120) (a : Nat) (ha : a ≤ n) {w : Nat} (hw : IsA w 6) (hw1 : w ≠ 1) (hw2 : w ≠ 2) (σ τ : Sto) (hm : σ.1 1 1 = nI n) (hI : rrI σ n a w 3 τ) (hp : τ.1 1 6 = nI (psn (σ.1 2) n a 2 + 1)) (hok : ∀ i, i < 3 → numOk (σ.1 2) n (psn (σ.1 2) n a i) (limI i)) (K : ∀ τ2, rrI σ n a w 4 τ2 → τ2.1 1 6 = nI (psn (σ.1 2) n a 3 + 1) → (∀ i, i < 4 → numOk (σ.1 2) n (psn (σ.1 2) n a i) (limI i)) → Ev S RX6 cX6_readRow 4 (some .boolean) 2 2 [.ref 1, .ref w, .int 4, .null] [] τ2 (fun r τ => rrP6 σ n a w r τ)) : Ev S RX6 cX6_readRow 4 (some .boolean) 2 2 [.ref 1, .ref w, .int 3, .null] [] τ (fun r τ => rrP6 σ n a w r τ) := by
  refine ev_iload_n_2 (pc := 2) dX6_readRow_2 ?_
  refine ev_aload_n_1 (pc := 3) dX6_readRow_3 ?_
  refine ev_arraylength (pc := 4) (v := 6) dX6_readRow_4 hw.1 (c := 10) hw.2.1 (by decide) (by rw [hw.2.2]; decide) ?_
  refine ev_icmp_ge (pc := 5) (tgt := 77) dX6_readRow_5 (by decide) (fun h5 => by exact absurd h5 (by decide)) (fun h5 => ?_)
  refine ev_iload_n_2 (pc := 8) dX6_readRow_8 ?_
  refine ev_getLim (pc := 9) dX6_readRow_9 rfl ?_
  refine ev_limlen (pc := 12) (v := 6) dX6_readRow_12 (by decide) ?_
  refine ev_icmp_ge (pc := 13) (tgt := 77) dX6_readRow_13 (by decide) (fun h13 => by exact absurd h13 (by decide)) (fun h13 => ?_)
  have e2 : τ.1 2 = σ.1 2 := funext fun j => hI.2.1 2 j (Ne.symm hw2) (Or.inl (by decide))
  have em : τ.1 1 1 = nI n := (hI.2.1 1 1 (Ne.symm hw1) (Or.inr (by decide))).trans hm
  refine ev_aload_n_0 (pc := 16) dX6_readRow_16 ?_
  refine ev_callV0 (pc := 17) dX6_readRow_17 ml_X6_46 (m_X6_skip n hn (psn (σ.1 2) n a 2 + 1) (dgt_lt (hok 2 (by decide)).1) τ em hp) (by decide) ⟨_, rfl, rfl⟩ rfl (by decide) rfl (Nat.le_of_ble_eq_true rfl) ?_
  rw [e2, show skp (σ.1 2) n (psn (σ.1 2) n a 2 + 1) = psn (σ.1 2) n a 3 from rfl]
  have em2 : (wr τ 1 6 (nI (psn (σ.1 2) n a 3))).1 1 1 = nI n := by rw [wr_nj (by decide)]; exact em
  have e22 : (wr τ 1 6 (nI (psn (σ.1 2) n a 3))).1 2 = σ.1 2 := by rw [wr_ne (by decide)]; exact e2
  refine ev_aload_n_0 (pc := 20) dX6_readRow_20 ?_
  refine ev_aload_n_0 (pc := 21) dX6_readRow_21 ?_
  refine ev_getI (pc := 22) dX6_readRow_22 fl_X6_30 (by decide) (by decide) (by decide) ?_
  rw [wr_at]
  refine ev_callV1 (pc := 25) dX6_readRow_25 ml_X6_61 (m_X6_digitAt n hn (psn (σ.1 2) n a 3) (by have := psn_le (f := σ.1 2) ha 3 hok; omega) _ em2) (by decide) ⟨_, rfl, rfl⟩ rfl (by decide) rfl (Nat.le_of_ble_eq_true rfl) ?_
  rw [e22]
  refine ev_istore_n_3 (pc := 28) dX6_readRow_28 (by decide) ?_
  refine ev_iload_n_3 (pc := 29) dX6_readRow_29 ?_
  refine ev_if_lt (pc := 30) (tgt := 55) dX6_readRow_30 (by decide) (fun h30 => ?_) (fun h30 => ?_)
  · skip
    refine ev_iconst (pc := 55) (v := 0) dX6_readRow_55 (by decide) ?_
    exact ev_ireturn (pc := 56) dX6_readRow_56 rfl rfl (rrFail6 hI hw1 3 (by decide) hok (fun z => z.1 h30))
  · skip
    refine ev_iload_n_3 (pc := 33) dX6_readRow_33 ?_
    refine ev_getLim (pc := 34) dX6_readRow_34 rfl ?_
    refine ev_iload_n_2 (pc := 37) dX6_readRow_37 ?_
    refine ev_limld (pc := 38) (v := 5) dX6_readRow_38 (vin_c (by decide)) (by decide) ?_
    refine ev_icmp_gt (pc := 39) (tgt := 55) dX6_readRow_39 (by decide) (fun h39 => ?_) (fun h39 => ?_)
    · skip
      refine ev_iconst (pc := 55) (v := 0) dX6_readRow_55 (by decide) ?_
      exact ev_ireturn (pc := 56) dX6_readRow_56 rfl rfl (rrFail6 hI hw1 3 (by decide) hok (fun z => z.2.1 h39))
    · skip
      refine ev_aload_n_0 (pc := 42) dX6_readRow_42 ?_
      refine ev_aload_n_0 (pc := 43) dX6_readRow_43 ?_
      refine ev_getI (pc := 44) dX6_readRow_44 fl_X6_30 (by decide) (by decide) (by decide) ?_
      refine ev_iconst (pc := 47) (v := 1) dX6_readRow_47 (by decide) ?_
      
      refine ev_iadd (pc := 48) dX6_readRow_48 ?_
      rw [wr_at, nI_s1]
      refine ev_callV1 (pc := 49) dX6_readRow_49 ml_X6_61 (m_X6_digitAt n hn (psn (σ.1 2) n a 3 + 1) (by have := (by have := psn_le (f := σ.1 2) ha 3 hok; omega); omega) _ em2) (by decide) ⟨_, rfl, rfl⟩ rfl (by decide) rfl (Nat.le_of_ble_eq_true rfl) ?_
      rw [e22]
      refine ev_if_lt (pc := 52) (tgt := 57) dX6_readRow_52 (by decide) (fun h52 => ?_) (fun h52 => ?_)
      · skip
        refine ev_aload_n_1 (pc := 57) dX6_readRow_57 ?_
        refine ev_iload_n_2 (pc := 58) dX6_readRow_58 ?_
        refine ev_iload_n_3 (pc := 59) dX6_readRow_59 ?_
        refine ev_iastore' (pc := 60) (j := 3) dX6_readRow_60 hw.1 hw.2.1 (by rw [hw.2.2]; exact (vin_c (by decide))) (by decide) ?_
        refine ev_aload_n_0 (pc := 61) dX6_readRow_61 ?_
        refine ev_dup (pc := 62) dX6_readRow_62 rfl ?_
        refine ev_getI (pc := 63) dX6_readRow_63 fl_X6_30 (by decide) (by decide) (by decide) ?_
        
        refine ev_iconst (pc := 66) (v := 1) dX6_readRow_66 (by decide) ?_
        refine ev_iadd (pc := 67) dX6_readRow_67 ?_
        rw [wr_ne (Ne.symm hw1), wr_at, nI_s1]
        refine ev_putI (pc := 68) dX6_readRow_68 fl_X6_30 (by decide) (by decide) (by decide) ?_
        rw [wr_wr6 hw1]
        refine ev_iinc_2 (pc := 71) (v := 4) dX6_readRow_71 (by decide) (by decide) ?_
        refine ev_goto (pc := 74) (tgt := 2) dX6_readRow_74 (by decide) ?_
        refine ev_null_3 ?_
        refine K _ ⟨hI.1, fun c j h1 h2 => ?_, fun i hi => ?_, fun i hi => ?_⟩ wr_at (fun i hi => ?_)
        · by_cases c1 : c = 1
          · subst c1; rw [wr_nj (by omega), wr_ne h1]; exact hI.2.1 1 j h1 h2
          · rw [wr_ne c1, wr_ne h1]; exact hI.2.1 c j h1 h2
        · rw [wr_ne hw1]
          by_cases e : i = 3
          · rw [e, wr_at]
          · rw [wr_nj e]; exact hI.2.2.1 i (by omega)
        · rw [wr_ne hw1, wr_nj (by omega)]; exact hI.2.2.2 i (by omega)
        · by_cases e : i = 3
          · rw [e]; exact ⟨h30, h39, h52⟩
          · exact hok i (by omega)
      · skip
        refine ev_iconst (pc := 55) (v := 0) dX6_readRow_55 (by decide) ?_
        exact ev_ireturn (pc := 56) dX6_readRow_56 rfl rfl (rrFail6 hI hw1 3 (by decide) hok (fun z => h52 z.2.2))
set_option maxRecDepth 100000 in
theorem b6_X6_readRow_4 {S : Scr} (n : Nat) (hn : n ≤ 120) (a : Nat) (ha : a ≤ n) {w : Nat} (hw : IsA w 6) (hw1 : w ≠ 1) (hw2 : w ≠ 2) (σ τ : Sto) (hm : σ.1 1 1 = nI n) (hI : rrI σ n a w 4 τ) (hp : τ.1 1 6 = nI (psn (σ.1 2) n a 3 + 1)) (hok : ∀ i, i < 4 → numOk (σ.1 2) n (psn (σ.1 2) n a i) (limI i)) (K : ∀ τ2, rrI σ n a w 5 τ2 → τ2.1 1 6 = nI (psn (σ.1 2) n a 4 + 1) → (∀ i, i < 5 → numOk (σ.1 2) n (psn (σ.1 2) n a i) (limI i)) → Ev S RX6 cX6_readRow 4 (some .boolean) 2 2 [.ref 1, .ref w, .int 5, .null] [] τ2 (fun r τ => rrP6 σ n a w r τ)) : Ev S RX6 cX6_readRow 4 (some .boolean) 2 2 [.ref 1, .ref w, .int 4, .null] [] τ (fun r τ => rrP6 σ n a w r τ) := by
  refine ev_iload_n_2 (pc := 2) dX6_readRow_2 ?_
  refine ev_aload_n_1 (pc := 3) dX6_readRow_3 ?_
  refine ev_arraylength (pc := 4) (v := 6) dX6_readRow_4 hw.1 (c := 10) hw.2.1 (by decide) (by rw [hw.2.2]; decide) ?_
  refine ev_icmp_ge (pc := 5) (tgt := 77) dX6_readRow_5 (by decide) (fun h5 => by exact absurd h5 (by decide)) (fun h5 => ?_)
  refine ev_iload_n_2 (pc := 8) dX6_readRow_8 ?_
  refine ev_getLim (pc := 9) dX6_readRow_9 rfl ?_
  refine ev_limlen (pc := 12) (v := 6) dX6_readRow_12 (by decide) ?_
  refine ev_icmp_ge (pc := 13) (tgt := 77) dX6_readRow_13 (by decide) (fun h13 => by exact absurd h13 (by decide)) (fun h13 => ?_)
  have e2 : τ.1 2 = σ.1 2 := funext fun j => hI.2.1 2 j (Ne.symm hw2) (Or.inl (by decide))
  have em : τ.1 1 1 = nI n := (hI.2.1 1 1 (Ne.symm hw1) (Or.inr (by decide))).trans hm
  refine ev_aload_n_0 (pc := 16) dX6_readRow_16 ?_
  refine ev_callV0 (pc := 17) dX6_readRow_17 ml_X6_46 (m_X6_skip n hn (psn (σ.1 2) n a 3 + 1) (dgt_lt (hok 3 (by decide)).1) τ em hp) (by decide) ⟨_, rfl, rfl⟩ rfl (by decide) rfl (Nat.le_of_ble_eq_true rfl) ?_
  rw [e2, show skp (σ.1 2) n (psn (σ.1 2) n a 3 + 1) = psn (σ.1 2) n a 4 from rfl]
  have em2 : (wr τ 1 6 (nI (psn (σ.1 2) n a 4))).1 1 1 = nI n := by rw [wr_nj (by decide)]; exact em
  have e22 : (wr τ 1 6 (nI (psn (σ.1 2) n a 4))).1 2 = σ.1 2 := by rw [wr_ne (by decide)]; exact e2
  refine ev_aload_n_0 (pc := 20) dX6_readRow_20 ?_
  refine ev_aload_n_0 (pc := 21) dX6_readRow_21 ?_
  refine ev_getI (pc := 22) dX6_readRow_22 fl_X6_30 (by decide) (by decide) (by decide) ?_
  rw [wr_at]
  refine ev_callV1 (pc := 25) dX6_readRow_25 ml_X6_61 (m_X6_digitAt n hn (psn (σ.1 2) n a 4) (by have := psn_le (f := σ.1 2) ha 4 hok; omega) _ em2) (by decide) ⟨_, rfl, rfl⟩ rfl (by decide) rfl (Nat.le_of_ble_eq_true rfl) ?_
  rw [e22]
  refine ev_istore_n_3 (pc := 28) dX6_readRow_28 (by decide) ?_
  refine ev_iload_n_3 (pc := 29) dX6_readRow_29 ?_
  refine ev_if_lt (pc := 30) (tgt := 55) dX6_readRow_30 (by decide) (fun h30 => ?_) (fun h30 => ?_)
  · skip
    refine ev_iconst (pc := 55) (v := 0) dX6_readRow_55 (by decide) ?_
    exact ev_ireturn (pc := 56) dX6_readRow_56 rfl rfl (rrFail6 hI hw1 4 (by decide) hok (fun z => z.1 h30))
  · skip
    refine ev_iload_n_3 (pc := 33) dX6_readRow_33 ?_
    refine ev_getLim (pc := 34) dX6_readRow_34 rfl ?_
    refine ev_iload_n_2 (pc := 37) dX6_readRow_37 ?_
    refine ev_limld (pc := 38) (v := 2) dX6_readRow_38 (vin_c (by decide)) (by decide) ?_
    refine ev_icmp_gt (pc := 39) (tgt := 55) dX6_readRow_39 (by decide) (fun h39 => ?_) (fun h39 => ?_)
    · skip
      refine ev_iconst (pc := 55) (v := 0) dX6_readRow_55 (by decide) ?_
      exact ev_ireturn (pc := 56) dX6_readRow_56 rfl rfl (rrFail6 hI hw1 4 (by decide) hok (fun z => z.2.1 h39))
    · skip
      refine ev_aload_n_0 (pc := 42) dX6_readRow_42 ?_
      refine ev_aload_n_0 (pc := 43) dX6_readRow_43 ?_
      refine ev_getI (pc := 44) dX6_readRow_44 fl_X6_30 (by decide) (by decide) (by decide) ?_
      refine ev_iconst (pc := 47) (v := 1) dX6_readRow_47 (by decide) ?_
      
      refine ev_iadd (pc := 48) dX6_readRow_48 ?_
      rw [wr_at, nI_s1]
      refine ev_callV1 (pc := 49) dX6_readRow_49 ml_X6_61 (m_X6_digitAt n hn (psn (σ.1 2) n a 4 + 1) (by have := (by have := psn_le (f := σ.1 2) ha 4 hok; omega); omega) _ em2) (by decide) ⟨_, rfl, rfl⟩ rfl (by decide) rfl (Nat.le_of_ble_eq_true rfl) ?_
      rw [e22]
      refine ev_if_lt (pc := 52) (tgt := 57) dX6_readRow_52 (by decide) (fun h52 => ?_) (fun h52 => ?_)
      · skip
        refine ev_aload_n_1 (pc := 57) dX6_readRow_57 ?_
        refine ev_iload_n_2 (pc := 58) dX6_readRow_58 ?_
        refine ev_iload_n_3 (pc := 59) dX6_readRow_59 ?_
        refine ev_iastore' (pc := 60) (j := 4) dX6_readRow_60 hw.1 hw.2.1 (by rw [hw.2.2]; exact (vin_c (by decide))) (by decide) ?_
        refine ev_aload_n_0 (pc := 61) dX6_readRow_61 ?_
        refine ev_dup (pc := 62) dX6_readRow_62 rfl ?_
        refine ev_getI (pc := 63) dX6_readRow_63 fl_X6_30 (by decide) (by decide) (by decide) ?_
        
        refine ev_iconst (pc := 66) (v := 1) dX6_readRow_66 (by decide) ?_
        refine ev_iadd (pc := 67) dX6_readRow_67 ?_
        rw [wr_ne (Ne.symm hw1), wr_at, nI_s1]
        refine ev_putI (pc := 68) dX6_readRow_68 fl_X6_30 (by decide) (by decide) (by decide) ?_
        rw [wr_wr6 hw1]
        refine ev_iinc_2 (pc := 71) (v := 5) dX6_readRow_71 (by decide) (by decide) ?_
        refine ev_goto (pc := 74) (tgt := 2) dX6_readRow_74 (by decide) ?_
        refine ev_null_3 ?_
        refine K _ ⟨hI.1, fun c j h1 h2 => ?_, fun i hi => ?_, fun i hi => ?_⟩ wr_at (fun i hi => ?_)
        · by_cases c1 : c = 1
          · subst c1; rw [wr_nj (by omega), wr_ne h1]; exact hI.2.1 1 j h1 h2
          · rw [wr_ne c1, wr_ne h1]; exact hI.2.1 c j h1 h2
        · rw [wr_ne hw1]
          by_cases e : i = 4
          · rw [e, wr_at]
          · rw [wr_nj e]; exact hI.2.2.1 i (by omega)
        · rw [wr_ne hw1, wr_nj (by omega)]; exact hI.2.2.2 i (by omega)
        · by_cases e : i = 4
          · rw [e]; exact ⟨h30, h39, h52⟩
          · exact hok i (by omega)
      · skip
        refine ev_iconst (pc := 55) (v := 0) dX6_readRow_55 (by decide) ?_
        exact ev_ireturn (pc := 56) dX6_readRow_56 rfl rfl (rrFail6 hI hw1 4 (by decide) hok (fun z => h52 z.2.2))
set_option maxRecDepth 100000 in
theorem b6_X6_readRow_5 {S : Scr} (n : Nat) (hn : n ≤ 120) (a : Nat) (ha : a ≤ n) {w : Nat} (hw : IsA w 6) (hw1 : w ≠ 1) (hw2 : w ≠ 2) (σ τ : Sto) (hm : σ.1 1 1 = nI n) (hI : rrI σ n a w 5 τ) (hp : τ.1 1 6 = nI (psn (σ.1 2) n a 4 + 1)) (hok : ∀ i, i < 5 → numOk (σ.1 2) n (psn (σ.1 2) n a i) (limI i)) (K : ∀ τ2, rrI σ n a w 6 τ2 → τ2.1 1 6 = nI (psn (σ.1 2) n a 5 + 1) → (∀ i, i < 6 → numOk (σ.1 2) n (psn (σ.1 2) n a i) (limI i)) → Ev S RX6 cX6_readRow 4 (some .boolean) 2 2 [.ref 1, .ref w, .int 6, .null] [] τ2 (fun r τ => rrP6 σ n a w r τ)) : Ev S RX6 cX6_readRow 4 (some .boolean) 2 2 [.ref 1, .ref w, .int 5, .null] [] τ (fun r τ => rrP6 σ n a w r τ) := by
  refine ev_iload_n_2 (pc := 2) dX6_readRow_2 ?_
  refine ev_aload_n_1 (pc := 3) dX6_readRow_3 ?_
  refine ev_arraylength (pc := 4) (v := 6) dX6_readRow_4 hw.1 (c := 10) hw.2.1 (by decide) (by rw [hw.2.2]; decide) ?_
  refine ev_icmp_ge (pc := 5) (tgt := 77) dX6_readRow_5 (by decide) (fun h5 => by exact absurd h5 (by decide)) (fun h5 => ?_)
  refine ev_iload_n_2 (pc := 8) dX6_readRow_8 ?_
  refine ev_getLim (pc := 9) dX6_readRow_9 rfl ?_
  refine ev_limlen (pc := 12) (v := 6) dX6_readRow_12 (by decide) ?_
  refine ev_icmp_ge (pc := 13) (tgt := 77) dX6_readRow_13 (by decide) (fun h13 => by exact absurd h13 (by decide)) (fun h13 => ?_)
  have e2 : τ.1 2 = σ.1 2 := funext fun j => hI.2.1 2 j (Ne.symm hw2) (Or.inl (by decide))
  have em : τ.1 1 1 = nI n := (hI.2.1 1 1 (Ne.symm hw1) (Or.inr (by decide))).trans hm
  refine ev_aload_n_0 (pc := 16) dX6_readRow_16 ?_
  refine ev_callV0 (pc := 17) dX6_readRow_17 ml_X6_46 (m_X6_skip n hn (psn (σ.1 2) n a 4 + 1) (dgt_lt (hok 4 (by decide)).1) τ em hp) (by decide) ⟨_, rfl, rfl⟩ rfl (by decide) rfl (Nat.le_of_ble_eq_true rfl) ?_
  rw [e2, show skp (σ.1 2) n (psn (σ.1 2) n a 4 + 1) = psn (σ.1 2) n a 5 from rfl]
  have em2 : (wr τ 1 6 (nI (psn (σ.1 2) n a 5))).1 1 1 = nI n := by rw [wr_nj (by decide)]; exact em
  have e22 : (wr τ 1 6 (nI (psn (σ.1 2) n a 5))).1 2 = σ.1 2 := by rw [wr_ne (by decide)]; exact e2
  refine ev_aload_n_0 (pc := 20) dX6_readRow_20 ?_
  refine ev_aload_n_0 (pc := 21) dX6_readRow_21 ?_
  refine ev_getI (pc := 22) dX6_readRow_22 fl_X6_30 (by decide) (by decide) (by decide) ?_
  rw [wr_at]
  refine ev_callV1 (pc := 25) dX6_readRow_25 ml_X6_61 (m_X6_digitAt n hn (psn (σ.1 2) n a 5) (by have := psn_le (f := σ.1 2) ha 5 hok; omega) _ em2) (by decide) ⟨_, rfl, rfl⟩ rfl (by decide) rfl (Nat.le_of_ble_eq_true rfl) ?_
  rw [e22]
  refine ev_istore_n_3 (pc := 28) dX6_readRow_28 (by decide) ?_
  refine ev_iload_n_3 (pc := 29) dX6_readRow_29 ?_
  refine ev_if_lt (pc := 30) (tgt := 55) dX6_readRow_30 (by decide) (fun h30 => ?_) (fun h30 => ?_)
  · skip
    refine ev_iconst (pc := 55) (v := 0) dX6_readRow_55 (by decide) ?_
    exact ev_ireturn (pc := 56) dX6_readRow_56 rfl rfl (rrFail6 hI hw1 5 (by decide) hok (fun z => z.1 h30))
  · skip
    refine ev_iload_n_3 (pc := 33) dX6_readRow_33 ?_
    refine ev_getLim (pc := 34) dX6_readRow_34 rfl ?_
    refine ev_iload_n_2 (pc := 37) dX6_readRow_37 ?_
    refine ev_limld (pc := 38) (v := 1) dX6_readRow_38 (vin_c (by decide)) (by decide) ?_
    refine ev_icmp_gt (pc := 39) (tgt := 55) dX6_readRow_39 (by decide) (fun h39 => ?_) (fun h39 => ?_)
    · skip
      refine ev_iconst (pc := 55) (v := 0) dX6_readRow_55 (by decide) ?_
      exact ev_ireturn (pc := 56) dX6_readRow_56 rfl rfl (rrFail6 hI hw1 5 (by decide) hok (fun z => z.2.1 h39))
    · skip
      refine ev_aload_n_0 (pc := 42) dX6_readRow_42 ?_
      refine ev_aload_n_0 (pc := 43) dX6_readRow_43 ?_
      refine ev_getI (pc := 44) dX6_readRow_44 fl_X6_30 (by decide) (by decide) (by decide) ?_
      refine ev_iconst (pc := 47) (v := 1) dX6_readRow_47 (by decide) ?_
      
      refine ev_iadd (pc := 48) dX6_readRow_48 ?_
      rw [wr_at, nI_s1]
      refine ev_callV1 (pc := 49) dX6_readRow_49 ml_X6_61 (m_X6_digitAt n hn (psn (σ.1 2) n a 5 + 1) (by have := (by have := psn_le (f := σ.1 2) ha 5 hok; omega); omega) _ em2) (by decide) ⟨_, rfl, rfl⟩ rfl (by decide) rfl (Nat.le_of_ble_eq_true rfl) ?_
      rw [e22]
      refine ev_if_lt (pc := 52) (tgt := 57) dX6_readRow_52 (by decide) (fun h52 => ?_) (fun h52 => ?_)
      · skip
        refine ev_aload_n_1 (pc := 57) dX6_readRow_57 ?_
        refine ev_iload_n_2 (pc := 58) dX6_readRow_58 ?_
        refine ev_iload_n_3 (pc := 59) dX6_readRow_59 ?_
        refine ev_iastore' (pc := 60) (j := 5) dX6_readRow_60 hw.1 hw.2.1 (by rw [hw.2.2]; exact (vin_c (by decide))) (by decide) ?_
        refine ev_aload_n_0 (pc := 61) dX6_readRow_61 ?_
        refine ev_dup (pc := 62) dX6_readRow_62 rfl ?_
        refine ev_getI (pc := 63) dX6_readRow_63 fl_X6_30 (by decide) (by decide) (by decide) ?_
        
        refine ev_iconst (pc := 66) (v := 1) dX6_readRow_66 (by decide) ?_
        refine ev_iadd (pc := 67) dX6_readRow_67 ?_
        rw [wr_ne (Ne.symm hw1), wr_at, nI_s1]
        refine ev_putI (pc := 68) dX6_readRow_68 fl_X6_30 (by decide) (by decide) (by decide) ?_
        rw [wr_wr6 hw1]
        refine ev_iinc_2 (pc := 71) (v := 6) dX6_readRow_71 (by decide) (by decide) ?_
        refine ev_goto (pc := 74) (tgt := 2) dX6_readRow_74 (by decide) ?_
        refine ev_null_3 ?_
        refine K _ ⟨hI.1, fun c j h1 h2 => ?_, fun i hi => ?_, fun i hi => ?_⟩ wr_at (fun i hi => ?_)
        · by_cases c1 : c = 1
          · subst c1; rw [wr_nj (by omega), wr_ne h1]; exact hI.2.1 1 j h1 h2
          · rw [wr_ne c1, wr_ne h1]; exact hI.2.1 c j h1 h2
        · rw [wr_ne hw1]
          by_cases e : i = 5
          · rw [e, wr_at]
          · rw [wr_nj e]; exact hI.2.2.1 i (by omega)
        · rw [wr_ne hw1, wr_nj (by omega)]; exact hI.2.2.2 i (by omega)
        · by_cases e : i = 5
          · rw [e]; exact ⟨h30, h39, h52⟩
          · exact hok i (by omega)
      · skip
        refine ev_iconst (pc := 55) (v := 0) dX6_readRow_55 (by decide) ?_
        exact ev_ireturn (pc := 56) dX6_readRow_56 rfl rfl (rrFail6 hI hw1 5 (by decide) hok (fun z => h52 z.2.2))
set_option maxRecDepth 100000 in
theorem e6_X6_readRow {S : Scr} (n : Nat) (hn : n ≤ 120) (a : Nat) (ha : a ≤ n) {w : Nat} (hw : IsA w 6) (hw1 : w ≠ 1) (hw2 : w ≠ 2) (σ τ : Sto) (hm : σ.1 1 1 = nI n) (hI : rrI σ n a w 6 τ) (hp : τ.1 1 6 = nI (psn (σ.1 2) n a 5 + 1)) (hok : ∀ i, i < 6 → numOk (σ.1 2) n (psn (σ.1 2) n a i) (limI i)) : Ev S RX6 cX6_readRow 4 (some .boolean) 2 2 [.ref 1, .ref w, .int 6, .null] [] τ (fun r τ => rrP6 σ n a w r τ) := by
  refine ev_iload_n_2 (pc := 2) dX6_readRow_2 ?_
  refine ev_aload_n_1 (pc := 3) dX6_readRow_3 ?_
  refine ev_arraylength (pc := 4) (v := 6) dX6_readRow_4 hw.1 (c := 10) hw.2.1 (by decide) (by rw [hw.2.2]; decide) ?_
  refine ev_icmp_ge (pc := 5) (tgt := 77) dX6_readRow_5 (by decide) (fun h5 => ?_) (fun h5 => by exact absurd h5 (by decide))
  have e2 : τ.1 2 = σ.1 2 := funext fun j => hI.2.1 2 j (Ne.symm hw2) (Or.inl (by decide))
  have em : τ.1 1 1 = nI n := (hI.2.1 1 1 (Ne.symm hw1) (Or.inr (by decide))).trans hm
  refine ev_aload_n_0 (pc := 77) dX6_readRow_77 ?_
  refine ev_callV0 (pc := 78) dX6_readRow_78 ml_X6_46 (m_X6_skip n hn (psn (σ.1 2) n a 5 + 1) (dgt_lt (hok 5 (by decide)).1) τ em hp) (by decide) ⟨_, rfl, rfl⟩ rfl (by decide) rfl (Nat.le_of_ble_eq_true rfl) ?_
  rw [e2, show skp (σ.1 2) n (psn (σ.1 2) n a 5 + 1) = psn (σ.1 2) n a 6 from rfl]
  have em2 : (wr τ 1 6 (nI (psn (σ.1 2) n a 6))).1 1 1 = nI n := by rw [wr_nj (by decide)]; exact em
  have e22 : (wr τ 1 6 (nI (psn (σ.1 2) n a 6))).1 2 = σ.1 2 := by rw [wr_ne (by decide)]; exact e2
  have hle : psn (σ.1 2) n a 6 ≤ n := psn_le ha 6 hok
  refine ev_aload_n_0 (pc := 81) dX6_readRow_81 ?_
  refine ev_aload_n_0 (pc := 82) dX6_readRow_82 ?_
  refine ev_getI (pc := 83) dX6_readRow_83 fl_X6_30 (by decide) (by decide) (by decide) ?_
  refine ev_bipush (pc := 86) (v := 59) dX6_readRow_86 (by decide) ?_
  rw [wr_at]
  refine ev_callV1 (pc := 88) dX6_readRow_88 ml_X6_53 (m_X6_isAt n hn (psn (σ.1 2) n a 6) (by omega) 59 _ em2) (by decide) ⟨_, rfl, rfl⟩ rfl (by decide) rfl (Nat.le_of_ble_eq_true rfl) ?_
  rw [e22]
  refine ev_if_ne (pc := 91) (tgt := 96) dX6_readRow_91 (by decide) (fun h91 => ?_) (fun h91 => ?_)
  · skip
    refine ev_aload_n_0 (pc := 96) dX6_readRow_96 ?_
    refine ev_dup (pc := 97) dX6_readRow_97 rfl ?_
    refine ev_getI (pc := 98) dX6_readRow_98 fl_X6_30 (by decide) (by decide) (by decide) ?_
    refine ev_iconst (pc := 101) (v := 1) dX6_readRow_101 (by decide) ?_
    refine ev_iadd (pc := 102) dX6_readRow_102 ?_
    rw [wr_at, nI_s1]
    refine ev_putI (pc := 103) dX6_readRow_103 fl_X6_30 (by decide) (by decide) (by decide) ?_
    rw [wr_wr]
    refine ev_iconst (pc := 106) (v := 1) dX6_readRow_106 (by decide) ?_
    exact ev_ireturn (pc := 107) dX6_readRow_107 rfl rfl (Or.inl ⟨rfl, ⟨hok, Decidable.not_not.mp (fun z => h91 (bI0.mpr z))⟩, rrMove hI hw1, wr_at⟩)
  · skip
    refine ev_iconst (pc := 94) (v := 0) dX6_readRow_94 (by decide) ?_
    exact ev_ireturn (pc := 95) dX6_readRow_95 rfl rfl (Or.inr ⟨rfl, 6, psn (σ.1 2) n a 6, ⟨6, Nat.le_refl _, rfl, hok, fun z => by omega, fun _ z => absurd (bI1.mpr z) (by rw [h91]; decide)⟩, rrMove hI hw1, wr_at⟩)
theorem m6_X6_readRow {S : Scr} (n : Nat) (hn : n ≤ 120) (a : Nat) (ha : a ≤ n) {w : Nat} (hw : IsA w 6) (hw1 : w ≠ 1) (hw2 : w ≠ 2) (σ : Sto) (hm : σ.1 1 1 = nI n) (hp : σ.1 1 6 = nI a) : Mt S yX6_readRow cX6_readRow 4 (some .boolean) 2 [.ref 1, .ref w] σ (fun r τ => rrP6 σ n a w r τ) := by
  refine mt_of (ls := [.ref 1, .ref w, .null, .null]) (by decide) rfl (Nat.le_of_ble_eq_true rfl) (by simp [Value.category]) ?_
  refine ev_iconst (pc := 0) (v := 0) dX6_readRow_0 (by decide) ?_
  refine ev_istore_n_2 (pc := 1) dX6_readRow_1 (by decide) ?_
  refine b6_X6_readRow_0 n hn a ha hw hw1 hw2 σ σ hm ⟨rfl, fun _ _ _ _ => rfl, fun i hi => by omega, fun _ _ => rfl⟩ hp (fun i hi => by omega) (fun τ1 i1 p1 o1 => ?_)
  refine b6_X6_readRow_1 n hn a ha hw hw1 hw2 σ τ1 hm i1 p1 o1 (fun τ2 i2 p2 o2 => ?_)
  refine b6_X6_readRow_2 n hn a ha hw hw1 hw2 σ τ2 hm i2 p2 o2 (fun τ3 i3 p3 o3 => ?_)
  refine b6_X6_readRow_3 n hn a ha hw hw1 hw2 σ τ3 hm i3 p3 o3 (fun τ4 i4 p4 o4 => ?_)
  refine b6_X6_readRow_4 n hn a ha hw hw1 hw2 σ τ4 hm i4 p4 o4 (fun τ5 i5 p5 o5 => ?_)
  refine b6_X6_readRow_5 n hn a ha hw hw1 hw2 σ τ5 hm i5 p5 o5 (fun τ6 i6 p6 o6 => ?_)
  exact e6_X6_readRow n hn a ha hw hw1 hw2 σ τ6 hm i6 p6 o6
def rrP4 (σ : Sto) (n a w : Nat) (r : Option Value) (τ : Sto) : Prop := (r = some (.int 1) ∧ rowOk (σ.1 2) n a 4 ∧ rrI σ n a w 4 τ ∧ τ.1 1 6 = nI (psn (σ.1 2) n a 4 + 1)) ∨ (r = some (.int 0) ∧ ∃ k z, rowBad (σ.1 2) n a 4 z ∧ rrI σ n a w k τ ∧ τ.1 1 6 = nI z)
theorem rrFail4 {σ τ : Sto} {n a w : Nat} {k0 : Nat} (hI : rrI σ n a w k0 τ) (hw1 : w ≠ 1) (k : Nat) (hk : k < 4) (hok : ∀ i, i < k → numOk (σ.1 2) n (psn (σ.1 2) n a i) (limI i)) (hno : ¬ numOk (σ.1 2) n (psn (σ.1 2) n a k) (limI k)) : rrP4 σ n a w (some (.int 0)) (wr τ 1 6 (nI (psn (σ.1 2) n a k))) := by
  refine Or.inr ⟨rfl, k0, psn (σ.1 2) n a k, ⟨k, by omega, rfl, hok, fun _ => hno, fun h => by omega⟩, ⟨hI.1, fun c j h1 h2 => ?_, fun i hi => ?_, fun i hi => ?_⟩, wr_at⟩
  · by_cases c1 : c = 1
    · subst c1; rw [wr_nj (by omega)]; exact hI.2.1 1 j h1 h2
    · rw [wr_ne c1]; exact hI.2.1 c j h1 h2
  · rw [wr_ne hw1]; exact hI.2.2.1 i hi
  · rw [wr_ne hw1]; exact hI.2.2.2 i hi
set_option maxRecDepth 100000 in
theorem b4_X6_readRow_0 {S : Scr} (n : Nat) (hn : n ≤ 120) (a : Nat) (ha : a ≤ n) {w : Nat} (hw : IsA w 4) (hw1 : w ≠ 1) (hw2 : w ≠ 2) (σ τ : Sto) (hm : σ.1 1 1 = nI n) (hI : rrI σ n a w 0 τ) (hp : τ.1 1 6 = nI a) (hok : ∀ i, i < 0 → numOk (σ.1 2) n (psn (σ.1 2) n a i) (limI i)) (K : ∀ τ2, rrI σ n a w 1 τ2 → τ2.1 1 6 = nI (psn (σ.1 2) n a 0 + 1) → (∀ i, i < 1 → numOk (σ.1 2) n (psn (σ.1 2) n a i) (limI i)) → Ev S RX6 cX6_readRow 4 (some .boolean) 2 2 [.ref 1, .ref w, .int 1, .null] [] τ2 (fun r τ => rrP4 σ n a w r τ)) : Ev S RX6 cX6_readRow 4 (some .boolean) 2 2 [.ref 1, .ref w, .int 0, .null] [] τ (fun r τ => rrP4 σ n a w r τ) := by
  refine ev_iload_n_2 (pc := 2) dX6_readRow_2 ?_
  refine ev_aload_n_1 (pc := 3) dX6_readRow_3 ?_
  refine ev_arraylength (pc := 4) (v := 4) dX6_readRow_4 hw.1 (c := 10) hw.2.1 (by decide) (by rw [hw.2.2]; decide) ?_
  refine ev_icmp_ge (pc := 5) (tgt := 77) dX6_readRow_5 (by decide) (fun h5 => by exact absurd h5 (by decide)) (fun h5 => ?_)
  refine ev_iload_n_2 (pc := 8) dX6_readRow_8 ?_
  refine ev_getLim (pc := 9) dX6_readRow_9 rfl ?_
  refine ev_limlen (pc := 12) (v := 6) dX6_readRow_12 (by decide) ?_
  refine ev_icmp_ge (pc := 13) (tgt := 77) dX6_readRow_13 (by decide) (fun h13 => by exact absurd h13 (by decide)) (fun h13 => ?_)
  have e2 : τ.1 2 = σ.1 2 := funext fun j => hI.2.1 2 j (Ne.symm hw2) (Or.inl (by decide))
  have em : τ.1 1 1 = nI n := (hI.2.1 1 1 (Ne.symm hw1) (Or.inr (by decide))).trans hm
  refine ev_aload_n_0 (pc := 16) dX6_readRow_16 ?_
  refine ev_callV0 (pc := 17) dX6_readRow_17 ml_X6_46 (m_X6_skip n hn a ha τ em hp) (by decide) ⟨_, rfl, rfl⟩ rfl (by decide) rfl (Nat.le_of_ble_eq_true rfl) ?_
  rw [e2, show skp (σ.1 2) n a = psn (σ.1 2) n a 0 from rfl]
  have em2 : (wr τ 1 6 (nI (psn (σ.1 2) n a 0))).1 1 1 = nI n := by rw [wr_nj (by decide)]; exact em
  have e22 : (wr τ 1 6 (nI (psn (σ.1 2) n a 0))).1 2 = σ.1 2 := by rw [wr_ne (by decide)]; exact e2
  refine ev_aload_n_0 (pc := 20) dX6_readRow_20 ?_
  refine ev_aload_n_0 (pc := 21) dX6_readRow_21 ?_
  refine ev_getI (pc := 22) dX6_readRow_22 fl_X6_30 (by decide) (by decide) (by decide) ?_
  rw [wr_at]
  refine ev_callV1 (pc := 25) dX6_readRow_25 ml_X6_61 (m_X6_digitAt n hn (psn (σ.1 2) n a 0) (by have := psn_le (f := σ.1 2) ha 0 hok; omega) _ em2) (by decide) ⟨_, rfl, rfl⟩ rfl (by decide) rfl (Nat.le_of_ble_eq_true rfl) ?_
  rw [e22]
  refine ev_istore_n_3 (pc := 28) dX6_readRow_28 (by decide) ?_
  refine ev_iload_n_3 (pc := 29) dX6_readRow_29 ?_
  refine ev_if_lt (pc := 30) (tgt := 55) dX6_readRow_30 (by decide) (fun h30 => ?_) (fun h30 => ?_)
  · skip
    refine ev_iconst (pc := 55) (v := 0) dX6_readRow_55 (by decide) ?_
    exact ev_ireturn (pc := 56) dX6_readRow_56 rfl rfl (rrFail4 hI hw1 0 (by decide) hok (fun z => z.1 h30))
  · skip
    refine ev_iload_n_3 (pc := 33) dX6_readRow_33 ?_
    refine ev_getLim (pc := 34) dX6_readRow_34 rfl ?_
    refine ev_iload_n_2 (pc := 37) dX6_readRow_37 ?_
    refine ev_limld (pc := 38) (v := 5) dX6_readRow_38 (vin_c (by decide)) (by decide) ?_
    refine ev_icmp_gt (pc := 39) (tgt := 55) dX6_readRow_39 (by decide) (fun h39 => ?_) (fun h39 => ?_)
    · skip
      refine ev_iconst (pc := 55) (v := 0) dX6_readRow_55 (by decide) ?_
      exact ev_ireturn (pc := 56) dX6_readRow_56 rfl rfl (rrFail4 hI hw1 0 (by decide) hok (fun z => z.2.1 h39))
    · skip
      refine ev_aload_n_0 (pc := 42) dX6_readRow_42 ?_
      refine ev_aload_n_0 (pc := 43) dX6_readRow_43 ?_
      refine ev_getI (pc := 44) dX6_readRow_44 fl_X6_30 (by decide) (by decide) (by decide) ?_
      refine ev_iconst (pc := 47) (v := 1) dX6_readRow_47 (by decide) ?_
      
      refine ev_iadd (pc := 48) dX6_readRow_48 ?_
      rw [wr_at, nI_s1]
      refine ev_callV1 (pc := 49) dX6_readRow_49 ml_X6_61 (m_X6_digitAt n hn (psn (σ.1 2) n a 0 + 1) (by have := (by have := psn_le (f := σ.1 2) ha 0 hok; omega); omega) _ em2) (by decide) ⟨_, rfl, rfl⟩ rfl (by decide) rfl (Nat.le_of_ble_eq_true rfl) ?_
      rw [e22]
      refine ev_if_lt (pc := 52) (tgt := 57) dX6_readRow_52 (by decide) (fun h52 => ?_) (fun h52 => ?_)
      · skip
        refine ev_aload_n_1 (pc := 57) dX6_readRow_57 ?_
        refine ev_iload_n_2 (pc := 58) dX6_readRow_58 ?_
        refine ev_iload_n_3 (pc := 59) dX6_readRow_59 ?_
        refine ev_iastore' (pc := 60) (j := 0) dX6_readRow_60 hw.1 hw.2.1 (by rw [hw.2.2]; exact (vin_c (by decide))) (by decide) ?_
        refine ev_aload_n_0 (pc := 61) dX6_readRow_61 ?_
        refine ev_dup (pc := 62) dX6_readRow_62 rfl ?_
        refine ev_getI (pc := 63) dX6_readRow_63 fl_X6_30 (by decide) (by decide) (by decide) ?_
        
        refine ev_iconst (pc := 66) (v := 1) dX6_readRow_66 (by decide) ?_
        refine ev_iadd (pc := 67) dX6_readRow_67 ?_
        rw [wr_ne (Ne.symm hw1), wr_at, nI_s1]
        refine ev_putI (pc := 68) dX6_readRow_68 fl_X6_30 (by decide) (by decide) (by decide) ?_
        rw [wr_wr6 hw1]
        refine ev_iinc_2 (pc := 71) (v := 1) dX6_readRow_71 (by decide) (by decide) ?_
        refine ev_goto (pc := 74) (tgt := 2) dX6_readRow_74 (by decide) ?_
        refine ev_null_3 ?_
        refine K _ ⟨hI.1, fun c j h1 h2 => ?_, fun i hi => ?_, fun i hi => ?_⟩ wr_at (fun i hi => ?_)
        · by_cases c1 : c = 1
          · subst c1; rw [wr_nj (by omega), wr_ne h1]; exact hI.2.1 1 j h1 h2
          · rw [wr_ne c1, wr_ne h1]; exact hI.2.1 c j h1 h2
        · rw [wr_ne hw1]
          by_cases e : i = 0
          · rw [e, wr_at]
          · rw [wr_nj e]; exact hI.2.2.1 i (by omega)
        · rw [wr_ne hw1, wr_nj (by omega)]; exact hI.2.2.2 i (by omega)
        · by_cases e : i = 0
          · rw [e]; exact ⟨h30, h39, h52⟩
          · exact hok i (by omega)
      · skip
        refine ev_iconst (pc := 55) (v := 0) dX6_readRow_55 (by decide) ?_
        exact ev_ireturn (pc := 56) dX6_readRow_56 rfl rfl (rrFail4 hI hw1 0 (by decide) hok (fun z => h52 z.2.2))
set_option maxRecDepth 100000 in
theorem b4_X6_readRow_1 {S : Scr} (n : Nat) (hn : n ≤ 120) (a : Nat) (ha : a ≤ n) {w : Nat} (hw : IsA w 4) (hw1 : w ≠ 1) (hw2 : w ≠ 2) (σ τ : Sto) (hm : σ.1 1 1 = nI n) (hI : rrI σ n a w 1 τ) (hp : τ.1 1 6 = nI (psn (σ.1 2) n a 0 + 1)) (hok : ∀ i, i < 1 → numOk (σ.1 2) n (psn (σ.1 2) n a i) (limI i)) (K : ∀ τ2, rrI σ n a w 2 τ2 → τ2.1 1 6 = nI (psn (σ.1 2) n a 1 + 1) → (∀ i, i < 2 → numOk (σ.1 2) n (psn (σ.1 2) n a i) (limI i)) → Ev S RX6 cX6_readRow 4 (some .boolean) 2 2 [.ref 1, .ref w, .int 2, .null] [] τ2 (fun r τ => rrP4 σ n a w r τ)) : Ev S RX6 cX6_readRow 4 (some .boolean) 2 2 [.ref 1, .ref w, .int 1, .null] [] τ (fun r τ => rrP4 σ n a w r τ) := by
  refine ev_iload_n_2 (pc := 2) dX6_readRow_2 ?_
  refine ev_aload_n_1 (pc := 3) dX6_readRow_3 ?_
  refine ev_arraylength (pc := 4) (v := 4) dX6_readRow_4 hw.1 (c := 10) hw.2.1 (by decide) (by rw [hw.2.2]; decide) ?_
  refine ev_icmp_ge (pc := 5) (tgt := 77) dX6_readRow_5 (by decide) (fun h5 => by exact absurd h5 (by decide)) (fun h5 => ?_)
  refine ev_iload_n_2 (pc := 8) dX6_readRow_8 ?_
  refine ev_getLim (pc := 9) dX6_readRow_9 rfl ?_
  refine ev_limlen (pc := 12) (v := 6) dX6_readRow_12 (by decide) ?_
  refine ev_icmp_ge (pc := 13) (tgt := 77) dX6_readRow_13 (by decide) (fun h13 => by exact absurd h13 (by decide)) (fun h13 => ?_)
  have e2 : τ.1 2 = σ.1 2 := funext fun j => hI.2.1 2 j (Ne.symm hw2) (Or.inl (by decide))
  have em : τ.1 1 1 = nI n := (hI.2.1 1 1 (Ne.symm hw1) (Or.inr (by decide))).trans hm
  refine ev_aload_n_0 (pc := 16) dX6_readRow_16 ?_
  refine ev_callV0 (pc := 17) dX6_readRow_17 ml_X6_46 (m_X6_skip n hn (psn (σ.1 2) n a 0 + 1) (dgt_lt (hok 0 (by decide)).1) τ em hp) (by decide) ⟨_, rfl, rfl⟩ rfl (by decide) rfl (Nat.le_of_ble_eq_true rfl) ?_
  rw [e2, show skp (σ.1 2) n (psn (σ.1 2) n a 0 + 1) = psn (σ.1 2) n a 1 from rfl]
  have em2 : (wr τ 1 6 (nI (psn (σ.1 2) n a 1))).1 1 1 = nI n := by rw [wr_nj (by decide)]; exact em
  have e22 : (wr τ 1 6 (nI (psn (σ.1 2) n a 1))).1 2 = σ.1 2 := by rw [wr_ne (by decide)]; exact e2
  refine ev_aload_n_0 (pc := 20) dX6_readRow_20 ?_
  refine ev_aload_n_0 (pc := 21) dX6_readRow_21 ?_
  refine ev_getI (pc := 22) dX6_readRow_22 fl_X6_30 (by decide) (by decide) (by decide) ?_
  rw [wr_at]
  refine ev_callV1 (pc := 25) dX6_readRow_25 ml_X6_61 (m_X6_digitAt n hn (psn (σ.1 2) n a 1) (by have := psn_le (f := σ.1 2) ha 1 hok; omega) _ em2) (by decide) ⟨_, rfl, rfl⟩ rfl (by decide) rfl (Nat.le_of_ble_eq_true rfl) ?_
  rw [e22]
  refine ev_istore_n_3 (pc := 28) dX6_readRow_28 (by decide) ?_
  refine ev_iload_n_3 (pc := 29) dX6_readRow_29 ?_
  refine ev_if_lt (pc := 30) (tgt := 55) dX6_readRow_30 (by decide) (fun h30 => ?_) (fun h30 => ?_)
  · skip
    refine ev_iconst (pc := 55) (v := 0) dX6_readRow_55 (by decide) ?_
    exact ev_ireturn (pc := 56) dX6_readRow_56 rfl rfl (rrFail4 hI hw1 1 (by decide) hok (fun z => z.1 h30))
  · skip
    refine ev_iload_n_3 (pc := 33) dX6_readRow_33 ?_
    refine ev_getLim (pc := 34) dX6_readRow_34 rfl ?_
    refine ev_iload_n_2 (pc := 37) dX6_readRow_37 ?_
    refine ev_limld (pc := 38) (v := 5) dX6_readRow_38 (vin_c (by decide)) (by decide) ?_
    refine ev_icmp_gt (pc := 39) (tgt := 55) dX6_readRow_39 (by decide) (fun h39 => ?_) (fun h39 => ?_)
    · skip
      refine ev_iconst (pc := 55) (v := 0) dX6_readRow_55 (by decide) ?_
      exact ev_ireturn (pc := 56) dX6_readRow_56 rfl rfl (rrFail4 hI hw1 1 (by decide) hok (fun z => z.2.1 h39))
    · skip
      refine ev_aload_n_0 (pc := 42) dX6_readRow_42 ?_
      refine ev_aload_n_0 (pc := 43) dX6_readRow_43 ?_
      refine ev_getI (pc := 44) dX6_readRow_44 fl_X6_30 (by decide) (by decide) (by decide) ?_
      refine ev_iconst (pc := 47) (v := 1) dX6_readRow_47 (by decide) ?_
      
      refine ev_iadd (pc := 48) dX6_readRow_48 ?_
      rw [wr_at, nI_s1]
      refine ev_callV1 (pc := 49) dX6_readRow_49 ml_X6_61 (m_X6_digitAt n hn (psn (σ.1 2) n a 1 + 1) (by have := (by have := psn_le (f := σ.1 2) ha 1 hok; omega); omega) _ em2) (by decide) ⟨_, rfl, rfl⟩ rfl (by decide) rfl (Nat.le_of_ble_eq_true rfl) ?_
      rw [e22]
      refine ev_if_lt (pc := 52) (tgt := 57) dX6_readRow_52 (by decide) (fun h52 => ?_) (fun h52 => ?_)
      · skip
        refine ev_aload_n_1 (pc := 57) dX6_readRow_57 ?_
        refine ev_iload_n_2 (pc := 58) dX6_readRow_58 ?_
        refine ev_iload_n_3 (pc := 59) dX6_readRow_59 ?_
        refine ev_iastore' (pc := 60) (j := 1) dX6_readRow_60 hw.1 hw.2.1 (by rw [hw.2.2]; exact (vin_c (by decide))) (by decide) ?_
        refine ev_aload_n_0 (pc := 61) dX6_readRow_61 ?_
        refine ev_dup (pc := 62) dX6_readRow_62 rfl ?_
        refine ev_getI (pc := 63) dX6_readRow_63 fl_X6_30 (by decide) (by decide) (by decide) ?_
        
        refine ev_iconst (pc := 66) (v := 1) dX6_readRow_66 (by decide) ?_
        refine ev_iadd (pc := 67) dX6_readRow_67 ?_
        rw [wr_ne (Ne.symm hw1), wr_at, nI_s1]
        refine ev_putI (pc := 68) dX6_readRow_68 fl_X6_30 (by decide) (by decide) (by decide) ?_
        rw [wr_wr6 hw1]
        refine ev_iinc_2 (pc := 71) (v := 2) dX6_readRow_71 (by decide) (by decide) ?_
        refine ev_goto (pc := 74) (tgt := 2) dX6_readRow_74 (by decide) ?_
        refine ev_null_3 ?_
        refine K _ ⟨hI.1, fun c j h1 h2 => ?_, fun i hi => ?_, fun i hi => ?_⟩ wr_at (fun i hi => ?_)
        · by_cases c1 : c = 1
          · subst c1; rw [wr_nj (by omega), wr_ne h1]; exact hI.2.1 1 j h1 h2
          · rw [wr_ne c1, wr_ne h1]; exact hI.2.1 c j h1 h2
        · rw [wr_ne hw1]
          by_cases e : i = 1
          · rw [e, wr_at]
          · rw [wr_nj e]; exact hI.2.2.1 i (by omega)
        · rw [wr_ne hw1, wr_nj (by omega)]; exact hI.2.2.2 i (by omega)
        · by_cases e : i = 1
          · rw [e]; exact ⟨h30, h39, h52⟩
          · exact hok i (by omega)
      · skip
        refine ev_iconst (pc := 55) (v := 0) dX6_readRow_55 (by decide) ?_
        exact ev_ireturn (pc := 56) dX6_readRow_56 rfl rfl (rrFail4 hI hw1 1 (by decide) hok (fun z => h52 z.2.2))
set_option maxRecDepth 100000 in
theorem b4_X6_readRow_2 {S : Scr} (n : Nat) (hn : n ≤ 120) (a : Nat) (ha : a ≤ n) {w : Nat} (hw : IsA w 4) (hw1 : w ≠ 1) (hw2 : w ≠ 2) (σ τ : Sto) (hm : σ.1 1 1 = nI n) (hI : rrI σ n a w 2 τ) (hp : τ.1 1 6 = nI (psn (σ.1 2) n a 1 + 1)) (hok : ∀ i, i < 2 → numOk (σ.1 2) n (psn (σ.1 2) n a i) (limI i)) (K : ∀ τ2, rrI σ n a w 3 τ2 → τ2.1 1 6 = nI (psn (σ.1 2) n a 2 + 1) → (∀ i, i < 3 → numOk (σ.1 2) n (psn (σ.1 2) n a i) (limI i)) → Ev S RX6 cX6_readRow 4 (some .boolean) 2 2 [.ref 1, .ref w, .int 3, .null] [] τ2 (fun r τ => rrP4 σ n a w r τ)) : Ev S RX6 cX6_readRow 4 (some .boolean) 2 2 [.ref 1, .ref w, .int 2, .null] [] τ (fun r τ => rrP4 σ n a w r τ) := by
  refine ev_iload_n_2 (pc := 2) dX6_readRow_2 ?_
  refine ev_aload_n_1 (pc := 3) dX6_readRow_3 ?_
  refine ev_arraylength (pc := 4) (v := 4) dX6_readRow_4 hw.1 (c := 10) hw.2.1 (by decide) (by rw [hw.2.2]; decide) ?_
  refine ev_icmp_ge (pc := 5) (tgt := 77) dX6_readRow_5 (by decide) (fun h5 => by exact absurd h5 (by decide)) (fun h5 => ?_)
  refine ev_iload_n_2 (pc := 8) dX6_readRow_8 ?_
  refine ev_getLim (pc := 9) dX6_readRow_9 rfl ?_
  refine ev_limlen (pc := 12) (v := 6) dX6_readRow_12 (by decide) ?_
  refine ev_icmp_ge (pc := 13) (tgt := 77) dX6_readRow_13 (by decide) (fun h13 => by exact absurd h13 (by decide)) (fun h13 => ?_)
  have e2 : τ.1 2 = σ.1 2 := funext fun j => hI.2.1 2 j (Ne.symm hw2) (Or.inl (by decide))
  have em : τ.1 1 1 = nI n := (hI.2.1 1 1 (Ne.symm hw1) (Or.inr (by decide))).trans hm
  refine ev_aload_n_0 (pc := 16) dX6_readRow_16 ?_
  refine ev_callV0 (pc := 17) dX6_readRow_17 ml_X6_46 (m_X6_skip n hn (psn (σ.1 2) n a 1 + 1) (dgt_lt (hok 1 (by decide)).1) τ em hp) (by decide) ⟨_, rfl, rfl⟩ rfl (by decide) rfl (Nat.le_of_ble_eq_true rfl) ?_
  rw [e2, show skp (σ.1 2) n (psn (σ.1 2) n a 1 + 1) = psn (σ.1 2) n a 2 from rfl]
  have em2 : (wr τ 1 6 (nI (psn (σ.1 2) n a 2))).1 1 1 = nI n := by rw [wr_nj (by decide)]; exact em
  have e22 : (wr τ 1 6 (nI (psn (σ.1 2) n a 2))).1 2 = σ.1 2 := by rw [wr_ne (by decide)]; exact e2
  refine ev_aload_n_0 (pc := 20) dX6_readRow_20 ?_
  refine ev_aload_n_0 (pc := 21) dX6_readRow_21 ?_
  refine ev_getI (pc := 22) dX6_readRow_22 fl_X6_30 (by decide) (by decide) (by decide) ?_
  rw [wr_at]
  refine ev_callV1 (pc := 25) dX6_readRow_25 ml_X6_61 (m_X6_digitAt n hn (psn (σ.1 2) n a 2) (by have := psn_le (f := σ.1 2) ha 2 hok; omega) _ em2) (by decide) ⟨_, rfl, rfl⟩ rfl (by decide) rfl (Nat.le_of_ble_eq_true rfl) ?_
  rw [e22]
  refine ev_istore_n_3 (pc := 28) dX6_readRow_28 (by decide) ?_
  refine ev_iload_n_3 (pc := 29) dX6_readRow_29 ?_
  refine ev_if_lt (pc := 30) (tgt := 55) dX6_readRow_30 (by decide) (fun h30 => ?_) (fun h30 => ?_)
  · skip
    refine ev_iconst (pc := 55) (v := 0) dX6_readRow_55 (by decide) ?_
    exact ev_ireturn (pc := 56) dX6_readRow_56 rfl rfl (rrFail4 hI hw1 2 (by decide) hok (fun z => z.1 h30))
  · skip
    refine ev_iload_n_3 (pc := 33) dX6_readRow_33 ?_
    refine ev_getLim (pc := 34) dX6_readRow_34 rfl ?_
    refine ev_iload_n_2 (pc := 37) dX6_readRow_37 ?_
    refine ev_limld (pc := 38) (v := 5) dX6_readRow_38 (vin_c (by decide)) (by decide) ?_
    refine ev_icmp_gt (pc := 39) (tgt := 55) dX6_readRow_39 (by decide) (fun h39 => ?_) (fun h39 => ?_)
    · skip
      refine ev_iconst (pc := 55) (v := 0) dX6_readRow_55 (by decide) ?_
      exact ev_ireturn (pc := 56) dX6_readRow_56 rfl rfl (rrFail4 hI hw1 2 (by decide) hok (fun z => z.2.1 h39))
    · skip
      refine ev_aload_n_0 (pc := 42) dX6_readRow_42 ?_
      refine ev_aload_n_0 (pc := 43) dX6_readRow_43 ?_
      refine ev_getI (pc := 44) dX6_readRow_44 fl_X6_30 (by decide) (by decide) (by decide) ?_
      refine ev_iconst (pc := 47) (v := 1) dX6_readRow_47 (by decide) ?_
      
      refine ev_iadd (pc := 48) dX6_readRow_48 ?_
      rw [wr_at, nI_s1]
      refine ev_callV1 (pc := 49) dX6_readRow_49 ml_X6_61 (m_X6_digitAt n hn (psn (σ.1 2) n a 2 + 1) (by have := (by have := psn_le (f := σ.1 2) ha 2 hok; omega); omega) _ em2) (by decide) ⟨_, rfl, rfl⟩ rfl (by decide) rfl (Nat.le_of_ble_eq_true rfl) ?_
      rw [e22]
      refine ev_if_lt (pc := 52) (tgt := 57) dX6_readRow_52 (by decide) (fun h52 => ?_) (fun h52 => ?_)
      · skip
        refine ev_aload_n_1 (pc := 57) dX6_readRow_57 ?_
        refine ev_iload_n_2 (pc := 58) dX6_readRow_58 ?_
        refine ev_iload_n_3 (pc := 59) dX6_readRow_59 ?_
        refine ev_iastore' (pc := 60) (j := 2) dX6_readRow_60 hw.1 hw.2.1 (by rw [hw.2.2]; exact (vin_c (by decide))) (by decide) ?_
        refine ev_aload_n_0 (pc := 61) dX6_readRow_61 ?_
        refine ev_dup (pc := 62) dX6_readRow_62 rfl ?_
        refine ev_getI (pc := 63) dX6_readRow_63 fl_X6_30 (by decide) (by decide) (by decide) ?_
        
        refine ev_iconst (pc := 66) (v := 1) dX6_readRow_66 (by decide) ?_
        refine ev_iadd (pc := 67) dX6_readRow_67 ?_
        rw [wr_ne (Ne.symm hw1), wr_at, nI_s1]
        refine ev_putI (pc := 68) dX6_readRow_68 fl_X6_30 (by decide) (by decide) (by decide) ?_
        rw [wr_wr6 hw1]
        refine ev_iinc_2 (pc := 71) (v := 3) dX6_readRow_71 (by decide) (by decide) ?_
        refine ev_goto (pc := 74) (tgt := 2) dX6_readRow_74 (by decide) ?_
        refine ev_null_3 ?_
        refine K _ ⟨hI.1, fun c j h1 h2 => ?_, fun i hi => ?_, fun i hi => ?_⟩ wr_at (fun i hi => ?_)
        · by_cases c1 : c = 1
          · subst c1; rw [wr_nj (by omega), wr_ne h1]; exact hI.2.1 1 j h1 h2
          · rw [wr_ne c1, wr_ne h1]; exact hI.2.1 c j h1 h2
        · rw [wr_ne hw1]
          by_cases e : i = 2
          · rw [e, wr_at]
          · rw [wr_nj e]; exact hI.2.2.1 i (by omega)
        · rw [wr_ne hw1, wr_nj (by omega)]; exact hI.2.2.2 i (by omega)
        · by_cases e : i = 2
          · rw [e]; exact ⟨h30, h39, h52⟩
          · exact hok i (by omega)
      · skip
        refine ev_iconst (pc := 55) (v := 0) dX6_readRow_55 (by decide) ?_
        exact ev_ireturn (pc := 56) dX6_readRow_56 rfl rfl (rrFail4 hI hw1 2 (by decide) hok (fun z => h52 z.2.2))
set_option maxRecDepth 100000 in
theorem b4_X6_readRow_3 {S : Scr} (n : Nat) (hn : n ≤ 120) (a : Nat) (ha : a ≤ n) {w : Nat} (hw : IsA w 4) (hw1 : w ≠ 1) (hw2 : w ≠ 2) (σ τ : Sto) (hm : σ.1 1 1 = nI n) (hI : rrI σ n a w 3 τ) (hp : τ.1 1 6 = nI (psn (σ.1 2) n a 2 + 1)) (hok : ∀ i, i < 3 → numOk (σ.1 2) n (psn (σ.1 2) n a i) (limI i)) (K : ∀ τ2, rrI σ n a w 4 τ2 → τ2.1 1 6 = nI (psn (σ.1 2) n a 3 + 1) → (∀ i, i < 4 → numOk (σ.1 2) n (psn (σ.1 2) n a i) (limI i)) → Ev S RX6 cX6_readRow 4 (some .boolean) 2 2 [.ref 1, .ref w, .int 4, .null] [] τ2 (fun r τ => rrP4 σ n a w r τ)) : Ev S RX6 cX6_readRow 4 (some .boolean) 2 2 [.ref 1, .ref w, .int 3, .null] [] τ (fun r τ => rrP4 σ n a w r τ) := by
  refine ev_iload_n_2 (pc := 2) dX6_readRow_2 ?_
  refine ev_aload_n_1 (pc := 3) dX6_readRow_3 ?_
  refine ev_arraylength (pc := 4) (v := 4) dX6_readRow_4 hw.1 (c := 10) hw.2.1 (by decide) (by rw [hw.2.2]; decide) ?_
  refine ev_icmp_ge (pc := 5) (tgt := 77) dX6_readRow_5 (by decide) (fun h5 => by exact absurd h5 (by decide)) (fun h5 => ?_)
  refine ev_iload_n_2 (pc := 8) dX6_readRow_8 ?_
  refine ev_getLim (pc := 9) dX6_readRow_9 rfl ?_
  refine ev_limlen (pc := 12) (v := 6) dX6_readRow_12 (by decide) ?_
  refine ev_icmp_ge (pc := 13) (tgt := 77) dX6_readRow_13 (by decide) (fun h13 => by exact absurd h13 (by decide)) (fun h13 => ?_)
  have e2 : τ.1 2 = σ.1 2 := funext fun j => hI.2.1 2 j (Ne.symm hw2) (Or.inl (by decide))
  have em : τ.1 1 1 = nI n := (hI.2.1 1 1 (Ne.symm hw1) (Or.inr (by decide))).trans hm
  refine ev_aload_n_0 (pc := 16) dX6_readRow_16 ?_
  refine ev_callV0 (pc := 17) dX6_readRow_17 ml_X6_46 (m_X6_skip n hn (psn (σ.1 2) n a 2 + 1) (dgt_lt (hok 2 (by decide)).1) τ em hp) (by decide) ⟨_, rfl, rfl⟩ rfl (by decide) rfl (Nat.le_of_ble_eq_true rfl) ?_
  rw [e2, show skp (σ.1 2) n (psn (σ.1 2) n a 2 + 1) = psn (σ.1 2) n a 3 from rfl]
  have em2 : (wr τ 1 6 (nI (psn (σ.1 2) n a 3))).1 1 1 = nI n := by rw [wr_nj (by decide)]; exact em
  have e22 : (wr τ 1 6 (nI (psn (σ.1 2) n a 3))).1 2 = σ.1 2 := by rw [wr_ne (by decide)]; exact e2
  refine ev_aload_n_0 (pc := 20) dX6_readRow_20 ?_
  refine ev_aload_n_0 (pc := 21) dX6_readRow_21 ?_
  refine ev_getI (pc := 22) dX6_readRow_22 fl_X6_30 (by decide) (by decide) (by decide) ?_
  rw [wr_at]
  refine ev_callV1 (pc := 25) dX6_readRow_25 ml_X6_61 (m_X6_digitAt n hn (psn (σ.1 2) n a 3) (by have := psn_le (f := σ.1 2) ha 3 hok; omega) _ em2) (by decide) ⟨_, rfl, rfl⟩ rfl (by decide) rfl (Nat.le_of_ble_eq_true rfl) ?_
  rw [e22]
  refine ev_istore_n_3 (pc := 28) dX6_readRow_28 (by decide) ?_
  refine ev_iload_n_3 (pc := 29) dX6_readRow_29 ?_
  refine ev_if_lt (pc := 30) (tgt := 55) dX6_readRow_30 (by decide) (fun h30 => ?_) (fun h30 => ?_)
  · skip
    refine ev_iconst (pc := 55) (v := 0) dX6_readRow_55 (by decide) ?_
    exact ev_ireturn (pc := 56) dX6_readRow_56 rfl rfl (rrFail4 hI hw1 3 (by decide) hok (fun z => z.1 h30))
  · skip
    refine ev_iload_n_3 (pc := 33) dX6_readRow_33 ?_
    refine ev_getLim (pc := 34) dX6_readRow_34 rfl ?_
    refine ev_iload_n_2 (pc := 37) dX6_readRow_37 ?_
    refine ev_limld (pc := 38) (v := 5) dX6_readRow_38 (vin_c (by decide)) (by decide) ?_
    refine ev_icmp_gt (pc := 39) (tgt := 55) dX6_readRow_39 (by decide) (fun h39 => ?_) (fun h39 => ?_)
    · skip
      refine ev_iconst (pc := 55) (v := 0) dX6_readRow_55 (by decide) ?_
      exact ev_ireturn (pc := 56) dX6_readRow_56 rfl rfl (rrFail4 hI hw1 3 (by decide) hok (fun z => z.2.1 h39))
    · skip
      refine ev_aload_n_0 (pc := 42) dX6_readRow_42 ?_
      refine ev_aload_n_0 (pc := 43) dX6_readRow_43 ?_
      refine ev_getI (pc := 44) dX6_readRow_44 fl_X6_30 (by decide) (by decide) (by decide) ?_
      refine ev_iconst (pc := 47) (v := 1) dX6_readRow_47 (by decide) ?_
      
      refine ev_iadd (pc := 48) dX6_readRow_48 ?_
      rw [wr_at, nI_s1]
      refine ev_callV1 (pc := 49) dX6_readRow_49 ml_X6_61 (m_X6_digitAt n hn (psn (σ.1 2) n a 3 + 1) (by have := (by have := psn_le (f := σ.1 2) ha 3 hok; omega); omega) _ em2) (by decide) ⟨_, rfl, rfl⟩ rfl (by decide) rfl (Nat.le_of_ble_eq_true rfl) ?_
      rw [e22]
      refine ev_if_lt (pc := 52) (tgt := 57) dX6_readRow_52 (by decide) (fun h52 => ?_) (fun h52 => ?_)
      · skip
        refine ev_aload_n_1 (pc := 57) dX6_readRow_57 ?_
        refine ev_iload_n_2 (pc := 58) dX6_readRow_58 ?_
        refine ev_iload_n_3 (pc := 59) dX6_readRow_59 ?_
        refine ev_iastore' (pc := 60) (j := 3) dX6_readRow_60 hw.1 hw.2.1 (by rw [hw.2.2]; exact (vin_c (by decide))) (by decide) ?_
        refine ev_aload_n_0 (pc := 61) dX6_readRow_61 ?_
        refine ev_dup (pc := 62) dX6_readRow_62 rfl ?_
        refine ev_getI (pc := 63) dX6_readRow_63 fl_X6_30 (by decide) (by decide) (by decide) ?_
        
        refine ev_iconst (pc := 66) (v := 1) dX6_readRow_66 (by decide) ?_
        refine ev_iadd (pc := 67) dX6_readRow_67 ?_
        rw [wr_ne (Ne.symm hw1), wr_at, nI_s1]
        refine ev_putI (pc := 68) dX6_readRow_68 fl_X6_30 (by decide) (by decide) (by decide) ?_
        rw [wr_wr6 hw1]
        refine ev_iinc_2 (pc := 71) (v := 4) dX6_readRow_71 (by decide) (by decide) ?_
        refine ev_goto (pc := 74) (tgt := 2) dX6_readRow_74 (by decide) ?_
        refine ev_null_3 ?_
        refine K _ ⟨hI.1, fun c j h1 h2 => ?_, fun i hi => ?_, fun i hi => ?_⟩ wr_at (fun i hi => ?_)
        · by_cases c1 : c = 1
          · subst c1; rw [wr_nj (by omega), wr_ne h1]; exact hI.2.1 1 j h1 h2
          · rw [wr_ne c1, wr_ne h1]; exact hI.2.1 c j h1 h2
        · rw [wr_ne hw1]
          by_cases e : i = 3
          · rw [e, wr_at]
          · rw [wr_nj e]; exact hI.2.2.1 i (by omega)
        · rw [wr_ne hw1, wr_nj (by omega)]; exact hI.2.2.2 i (by omega)
        · by_cases e : i = 3
          · rw [e]; exact ⟨h30, h39, h52⟩
          · exact hok i (by omega)
      · skip
        refine ev_iconst (pc := 55) (v := 0) dX6_readRow_55 (by decide) ?_
        exact ev_ireturn (pc := 56) dX6_readRow_56 rfl rfl (rrFail4 hI hw1 3 (by decide) hok (fun z => h52 z.2.2))
set_option maxRecDepth 100000 in
theorem e4_X6_readRow {S : Scr} (n : Nat) (hn : n ≤ 120) (a : Nat) (ha : a ≤ n) {w : Nat} (hw : IsA w 4) (hw1 : w ≠ 1) (hw2 : w ≠ 2) (σ τ : Sto) (hm : σ.1 1 1 = nI n) (hI : rrI σ n a w 4 τ) (hp : τ.1 1 6 = nI (psn (σ.1 2) n a 3 + 1)) (hok : ∀ i, i < 4 → numOk (σ.1 2) n (psn (σ.1 2) n a i) (limI i)) : Ev S RX6 cX6_readRow 4 (some .boolean) 2 2 [.ref 1, .ref w, .int 4, .null] [] τ (fun r τ => rrP4 σ n a w r τ) := by
  refine ev_iload_n_2 (pc := 2) dX6_readRow_2 ?_
  refine ev_aload_n_1 (pc := 3) dX6_readRow_3 ?_
  refine ev_arraylength (pc := 4) (v := 4) dX6_readRow_4 hw.1 (c := 10) hw.2.1 (by decide) (by rw [hw.2.2]; decide) ?_
  refine ev_icmp_ge (pc := 5) (tgt := 77) dX6_readRow_5 (by decide) (fun h5 => ?_) (fun h5 => by exact absurd h5 (by decide))
  have e2 : τ.1 2 = σ.1 2 := funext fun j => hI.2.1 2 j (Ne.symm hw2) (Or.inl (by decide))
  have em : τ.1 1 1 = nI n := (hI.2.1 1 1 (Ne.symm hw1) (Or.inr (by decide))).trans hm
  refine ev_aload_n_0 (pc := 77) dX6_readRow_77 ?_
  refine ev_callV0 (pc := 78) dX6_readRow_78 ml_X6_46 (m_X6_skip n hn (psn (σ.1 2) n a 3 + 1) (dgt_lt (hok 3 (by decide)).1) τ em hp) (by decide) ⟨_, rfl, rfl⟩ rfl (by decide) rfl (Nat.le_of_ble_eq_true rfl) ?_
  rw [e2, show skp (σ.1 2) n (psn (σ.1 2) n a 3 + 1) = psn (σ.1 2) n a 4 from rfl]
  have em2 : (wr τ 1 6 (nI (psn (σ.1 2) n a 4))).1 1 1 = nI n := by rw [wr_nj (by decide)]; exact em
  have e22 : (wr τ 1 6 (nI (psn (σ.1 2) n a 4))).1 2 = σ.1 2 := by rw [wr_ne (by decide)]; exact e2
  have hle : psn (σ.1 2) n a 4 ≤ n := psn_le ha 4 hok
  refine ev_aload_n_0 (pc := 81) dX6_readRow_81 ?_
  refine ev_aload_n_0 (pc := 82) dX6_readRow_82 ?_
  refine ev_getI (pc := 83) dX6_readRow_83 fl_X6_30 (by decide) (by decide) (by decide) ?_
  refine ev_bipush (pc := 86) (v := 59) dX6_readRow_86 (by decide) ?_
  rw [wr_at]
  refine ev_callV1 (pc := 88) dX6_readRow_88 ml_X6_53 (m_X6_isAt n hn (psn (σ.1 2) n a 4) (by omega) 59 _ em2) (by decide) ⟨_, rfl, rfl⟩ rfl (by decide) rfl (Nat.le_of_ble_eq_true rfl) ?_
  rw [e22]
  refine ev_if_ne (pc := 91) (tgt := 96) dX6_readRow_91 (by decide) (fun h91 => ?_) (fun h91 => ?_)
  · skip
    refine ev_aload_n_0 (pc := 96) dX6_readRow_96 ?_
    refine ev_dup (pc := 97) dX6_readRow_97 rfl ?_
    refine ev_getI (pc := 98) dX6_readRow_98 fl_X6_30 (by decide) (by decide) (by decide) ?_
    refine ev_iconst (pc := 101) (v := 1) dX6_readRow_101 (by decide) ?_
    refine ev_iadd (pc := 102) dX6_readRow_102 ?_
    rw [wr_at, nI_s1]
    refine ev_putI (pc := 103) dX6_readRow_103 fl_X6_30 (by decide) (by decide) (by decide) ?_
    rw [wr_wr]
    refine ev_iconst (pc := 106) (v := 1) dX6_readRow_106 (by decide) ?_
    exact ev_ireturn (pc := 107) dX6_readRow_107 rfl rfl (Or.inl ⟨rfl, ⟨hok, Decidable.not_not.mp (fun z => h91 (bI0.mpr z))⟩, rrMove hI hw1, wr_at⟩)
  · skip
    refine ev_iconst (pc := 94) (v := 0) dX6_readRow_94 (by decide) ?_
    exact ev_ireturn (pc := 95) dX6_readRow_95 rfl rfl (Or.inr ⟨rfl, 4, psn (σ.1 2) n a 4, ⟨4, Nat.le_refl _, rfl, hok, fun z => by omega, fun _ z => absurd (bI1.mpr z) (by rw [h91]; decide)⟩, rrMove hI hw1, wr_at⟩)
theorem m4_X6_readRow {S : Scr} (n : Nat) (hn : n ≤ 120) (a : Nat) (ha : a ≤ n) {w : Nat} (hw : IsA w 4) (hw1 : w ≠ 1) (hw2 : w ≠ 2) (σ : Sto) (hm : σ.1 1 1 = nI n) (hp : σ.1 1 6 = nI a) : Mt S yX6_readRow cX6_readRow 4 (some .boolean) 2 [.ref 1, .ref w] σ (fun r τ => rrP4 σ n a w r τ) := by
  refine mt_of (ls := [.ref 1, .ref w, .null, .null]) (by decide) rfl (Nat.le_of_ble_eq_true rfl) (by simp [Value.category]) ?_
  refine ev_iconst (pc := 0) (v := 0) dX6_readRow_0 (by decide) ?_
  refine ev_istore_n_2 (pc := 1) dX6_readRow_1 (by decide) ?_
  refine b4_X6_readRow_0 n hn a ha hw hw1 hw2 σ σ hm ⟨rfl, fun _ _ _ _ => rfl, fun i hi => by omega, fun _ _ => rfl⟩ hp (fun i hi => by omega) (fun τ1 i1 p1 o1 => ?_)
  refine b4_X6_readRow_1 n hn a ha hw hw1 hw2 σ τ1 hm i1 p1 o1 (fun τ2 i2 p2 o2 => ?_)
  refine b4_X6_readRow_2 n hn a ha hw hw1 hw2 σ τ2 hm i2 p2 o2 (fun τ3 i3 p3 o3 => ?_)
  refine b4_X6_readRow_3 n hn a ha hw hw1 hw2 σ τ3 hm i3 p3 o3 (fun τ4 i4 p4 o4 => ?_)
  exact e4_X6_readRow n hn a ha hw hw1 hw2 σ τ4 hm i4 p4 o4
