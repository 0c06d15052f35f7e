/-! ===== the class's calls, 3: advice ===== -/
abbrev mpA (A : Abs) (s : Int32) (p : Nat) (m : Int32) : Int32 := itN (fun b a => if bit s b then a + ab (tst p m ((aC A).2.1 b) - aL A b p) else a) (aN A) 0
abbrev baSA (A : Abs) (s : Int32) (p i : Nat) (a : Int32 × Int32) : Int32 × Int32 := if a.2 ≤ mpA A s p (nI i) then a else (nI i, mpA A s p (nI i))
abbrev baA (A : Abs) (s : Int32) (p : Nat) : Int32 := (baSA A s p 5 (baSA A s p 4 (baSA A s p 3 (baSA A s p 2 (baSA A s p 1 (0, mpA A s p 0)))))).1
abbrev lmA (A : Abs) (s : Int32) : Int32 := 0 + mpA A s 0 (baA A s 0) + mpA A s 1 (baA A s 1) + mpA A s 2 (baA A s 2) + mpA A s 3 (baA A s 3)
theorem RC.mp {A : Abs} {σ : Sto} (h : RC A σ) (s : Int32) {p : Nat} (hp : p < 4) (m : Int32) : mpB σ 41 (aN A) s p m = mpA A s p m := itN_congr _ _ (fun b hb a => by
  show (if bit s b then a + ab (tst p m (σ.1 41 b) - σ.1 (25 + 2 * b + 1) p) else a) = _
  rw [h.coldE (by have := h.n6; omega), (h.2.1.2 b hb).1 p hp])
theorem RC.ba {A : Abs} {σ : Sto} (h : RC A σ) (s : Int32) {p : Nat} (hp : p < 4) : baB σ 41 (aN A) s p = baA A s p := by
  unfold baB baS baA baSA
  simp only [h.mp s hp]
theorem RC.lm {A : Abs} {σ : Sto} (h : RC A σ) (s : Int32) : lmB σ 41 (aN A) s = lmA A s := by
  show 0 + mpB σ 41 (aN A) s 0 (baB σ 41 (aN A) s 0) + mpB σ 41 (aN A) s 1 (baB σ 41 (aN A) s 1) + mpB σ 41 (aN A) s 2 (baB σ 41 (aN A) s 2) + mpB σ 41 (aN A) s 3 (baB σ 41 (aN A) s 3) = _
  rw [h.ba s (p := 0) (by decide), h.ba s (p := 1) (by decide), h.ba s (p := 2) (by decide), h.ba s (p := 3) (by decide), h.mp s (p := 0) (by decide), h.mp s (p := 1) (by decide), h.mp s (p := 2) (by decide), h.mp s (p := 3) (by decide)]
abbrev allA (A : Abs) : Int32 := nI (2 ^ aN A - 1)
theorem RC.evry {A : Abs} {σ : Sto} (h : RC A σ) : evry (σ.1 5 1) = allA A := by rw [h.m]; exact (evry_n _ h.n6).1
set_option maxRecDepth 100000 in
theorem m_X7_middle {S : Scr} {A : Abs} (p : Nat) (hp : p < 4) (σ : Sto) (h : RC A σ) : Mt S yX7_middle cX7_middle 3 (some .int) 4 [.ref 0, .int (nI p)] σ (PC A σ (baA A (allA A) p)) := by
  refine mt_of (ls := [.ref 0, .int (nI p), .null]) (by decide) rfl (Nat.le_of_ble_eq_true rfl) (by simp [Value.category]) ?_
  refine ev_iload_n_1 (pc := 0) dX7_middle_0 ?_
  refine ev_if_lt (pc := 1) (tgt := 9) dX7_middle_1 (by decide) (fun h1 => by exact absurd h1 (nI_pos (by omega))) (fun h1 => ?_)
  refine ev_iload_n_1 (pc := 4) dX7_middle_4 ?_
  refine ev_iconst (pc := 5) (v := 4) dX7_middle_5 (by decide) ?_
  refine ev_icmp_le (pc := 6) (tgt := 11) dX7_middle_6 (by decide) (fun h6 => ?_) (fun h6 => by exact absurd (nI_le (a := p) (b := 4) (by omega) (by decide)) h6)
  refine ev_aload_n_0 (pc := 11) dX7_middle_11 ?_
  refine ev_getR (pc := 12) (r := 5) dX7_middle_12 fl_X7_19 (by decide) (by decide) (by decide) (by decide) ?_
  refine ev_callV1 (pc := 15) dX7_middle_15 ml_X7_151 (m_X0_everyone σ) (by decide) ⟨_, rfl, rfl⟩ rfl (by decide) rfl (Nat.le_of_ble_eq_true rfl) ?_
  rw [h.evry]
  refine ev_istore_n_2 (pc := 18) dX7_middle_18 (by decide) ?_
  refine ev_iload_n_1 (pc := 19) dX7_middle_19 ?_
  refine ev_iconst (pc := 20) (v := 4) dX7_middle_20 (by decide) ?_
  refine ev_icmp_ne (pc := 21) (tgt := 40) dX7_middle_21 (by decide) (fun h21 => ?_) (fun h21 => by exact absurd h21 (fun z => by have := (lt5_ne4 p (by omega)).1.mp z; omega))
  refine ev_aload_n_0 (pc := 40) dX7_middle_40 ?_
  refine ev_getR (pc := 41) (r := 5) dX7_middle_41 fl_X7_19 (by decide) (by decide) (by decide) (by decide) ?_
  refine ev_iload_n_2 (pc := 44) dX7_middle_44 ?_
  refine ev_iload_n_1 (pc := 45) dX7_middle_45 ?_
  refine ev_aload_n_0 (pc := 46) dX7_middle_46 ?_
  refine ev_getR (pc := 47) (r := 39) dX7_middle_47 fl_X7_26 (by decide) (by decide) (by decide) (by decide) ?_
  refine ev_getR (pc := 50) (r := 41) dX7_middle_50 fl_X7_100 (by decide) (by decide) (by decide) (by decide) ?_
  refine ev_callV1 (pc := 53) dX7_middle_53 ml_X7_165 (m_X0_bestAmount isA_41 _ h.n6 _ p hp σ h.m) (by decide) ⟨_, rfl, rfl⟩ rfl (by decide) rfl (Nat.le_of_ble_eq_true rfl) ?_
  exact ev_ireturn (pc := 56) dX7_middle_56 rfl rfl (⟨by rw [h.ba _ hp], h, FrC.rf σ⟩)
set_option maxRecDepth 100000 in
theorem m_X7_middle4 {S : Scr} {A : Abs} (σ : Sto) (h : RC A σ) : Mt S yX7_middle cX7_middle 3 (some .int) 4 [.ref 0, .int 4] σ (PC A σ (lmA A (allA A))) := by
  refine mt_of (ls := [.ref 0, .int 4, .null]) (by decide) rfl (Nat.le_of_ble_eq_true rfl) (by simp [Value.category]) ?_
  refine ev_iload_n_1 (pc := 0) dX7_middle_0 ?_
  refine ev_if_lt (pc := 1) (tgt := 9) dX7_middle_1 (by decide) (fun h1 => by exact absurd h1 (by decide)) (fun h1 => ?_)
  refine ev_iload_n_1 (pc := 4) dX7_middle_4 ?_
  refine ev_iconst (pc := 5) (v := 4) dX7_middle_5 (by decide) ?_
  refine ev_icmp_le (pc := 6) (tgt := 11) dX7_middle_6 (by decide) (fun h6 => ?_) (fun h6 => by exact absurd h6 (by decide))
  refine ev_aload_n_0 (pc := 11) dX7_middle_11 ?_
  refine ev_getR (pc := 12) (r := 5) dX7_middle_12 fl_X7_19 (by decide) (by decide) (by decide) (by decide) ?_
  refine ev_callV1 (pc := 15) dX7_middle_15 ml_X7_151 (m_X0_everyone σ) (by decide) ⟨_, rfl, rfl⟩ rfl (by decide) rfl (Nat.le_of_ble_eq_true rfl) ?_
  rw [h.evry]
  refine ev_istore_n_2 (pc := 18) dX7_middle_18 (by decide) ?_
  refine ev_iload_n_1 (pc := 19) dX7_middle_19 ?_
  refine ev_iconst (pc := 20) (v := 4) dX7_middle_20 (by decide) ?_
  refine ev_icmp_ne (pc := 21) (tgt := 40) dX7_middle_21 (by decide) (fun h21 => by exact absurd h21 (by decide)) (fun h21 => ?_)
  refine ev_aload_n_0 (pc := 24) dX7_middle_24 ?_
  refine ev_getR (pc := 25) (r := 5) dX7_middle_25 fl_X7_19 (by decide) (by decide) (by decide) (by decide) ?_
  refine ev_iload_n_2 (pc := 28) dX7_middle_28 ?_
  refine ev_aload_n_0 (pc := 29) dX7_middle_29 ?_
  refine ev_getR (pc := 30) (r := 39) dX7_middle_30 fl_X7_26 (by decide) (by decide) (by decide) (by decide) ?_
  refine ev_getR (pc := 33) (r := 41) dX7_middle_33 fl_X7_100 (by decide) (by decide) (by decide) (by decide) ?_
  refine ev_callV1 (pc := 36) dX7_middle_36 ml_X7_161 (m_X0_leastMind isA_41 _ h.n6 _ σ h.m) (by decide) ⟨_, rfl, rfl⟩ rfl (by decide) rfl (Nat.le_of_ble_eq_true rfl) ?_
  exact ev_ireturn (pc := 39) dX7_middle_39 rfl rfl (⟨by rw [h.lm], h, FrC.rf σ⟩)
set_option maxRecDepth 100000 in
theorem m_X7_middle0 {S : Scr} (p : Int32) (hp : ¬ (¬ p < 0 ∧ p ≤ 4)) (σ : Sto) : Mt S yX7_middle cX7_middle 3 (some .int) 4 [.ref 0, .int p] σ (Is (some (.int (-1))) σ) := by
  refine mt_of (ls := [.ref 0, .int p, .null]) (by decide) rfl (Nat.le_of_ble_eq_true rfl) (by simp [Value.category]) ?_
  refine ev_iload_n_1 (pc := 0) dX7_middle_0 ?_
  refine ev_if_lt (pc := 1) (tgt := 9) dX7_middle_1 (by decide) (fun h1 => ?_) (fun h1 => ?_)
  · skip
    refine ev_iconst (pc := 9) (v := (-1)) dX7_middle_9 (by decide) ?_
    exact ev_ireturn (pc := 10) dX7_middle_10 rfl rfl (⟨rfl, rfl⟩)
  · skip
    refine ev_iload_n_1 (pc := 4) dX7_middle_4 ?_
    refine ev_iconst (pc := 5) (v := 4) dX7_middle_5 (by decide) ?_
    refine ev_icmp_le (pc := 6) (tgt := 11) dX7_middle_6 (by decide) (fun h6 => ?_) (fun h6 => ?_)
    · skip
      exact absurd ⟨h1, h6⟩ hp
    · skip
      refine ev_iconst (pc := 9) (v := (-1)) dX7_middle_9 (by decide) ?_
      exact ev_ireturn (pc := 10) dX7_middle_10 rfl rfl (⟨rfl, rfl⟩)
abbrev lmFA (A : Abs) : Nat → Int32 := fun i => lmA A (nI i)
def bpA (A : Abs) : Nat := itN (bpS (aN A) (lmFA A)) (2 ^ aN A - 1) 0
theorem pmB_congr {n : Nat} {f g : Nat → Int32} (h : ∀ i, i < 2 ^ n → f i = g i) {i : Nat} (hi : i < 2 ^ n) : pmB n f i = pmB n g i := by
  show f i + f (2 ^ n - 1 - i) = g i + g (2 ^ n - 1 - i)
  rw [h i hi, h _ (by omega)]
theorem bpI_congr {n : Nat} {f g : Nat → Int32} (h0 : 0 < 2 ^ n) (h : ∀ i, i < 2 ^ n → f i = g i) : ∀ k, k ≤ 2 ^ n - 1 → itN (bpS n f) k 0 = itN (bpS n g) k 0 := by
  intro k
  induction k with
  | zero => intro _; show (0 : Nat) = 0; rfl
  | succ k ih =>
    intro hk
    have e := ih (by omega)
    have hl := bpI_lt (n := n) (f := g) h0 k (by omega)
    show bpS n f k (itN (bpS n f) k 0) = bpS n g k (itN (bpS n g) k 0)
    rw [e]
    have h1 := pmB_congr h hl
    have h2 := pmB_congr h (i := k + 1) (by omega)
    simp only [bpS, h1, h2]
theorem lmW_at {σ : Sto} {f : Nat → Int32} {n i : Nat} (h : i < n) : (lmW σ f n).1 7 i = f i := by unfold lmW; simp [h]
theorem RC.lmF {A : Abs} {σ : Sto} (h : RC A σ) (i : Nat) : lmF σ 41 (aN A) i = lmFA A i := h.lm _
theorem RC.bp {A : Abs} {σ : Sto} (h : RC A σ) : bpB σ 41 (aN A) = bpA A := by
  unfold bpB bpA
  exact bpI_congr (evry_n _ h.n6).2.2 (fun i hi => by rw [lmW_at hi]; exact h.lmF i) _ (Nat.le_refl _)
theorem RC.lmMv {A : Abs} {σ : Sto} (h : RC A σ) (f : Nat → Int32) (i : Nat) : RC A (lmW σ f i) := h.mv2 rfl (fun c j h1 h2 h3 h4 h5 h6 => by rw [lmW_ne (by omega)])
theorem frC_lmW {σ : Sto} {f : Nat → Int32} {i : Nat} : FrC σ (lmW σ f i) := FrC.of (fun c hc => lmW_ne (by omega)) rfl
set_option maxRecDepth 100000 in
theorem m_X7_parted {S : Scr} {A : Abs} (σ : Sto) (h : RC A σ) : Mt S yX7_parted cX7_parted 3 (some .int) 5 [.ref 0, .int 0] σ (PC A σ (nI (bpA A))) := by
  refine mt_of (ls := [.ref 0, .int 0, .null]) (by decide) rfl (Nat.le_of_ble_eq_true rfl) (by simp [Value.category]) ?_
  refine ev_iload_n_1 (pc := 0) dX7_parted_0 ?_
  refine ev_if_lt (pc := 1) (tgt := 9) dX7_parted_1 (by decide) (fun h1 => by exact absurd h1 (by decide)) (fun h1 => ?_)
  refine ev_iload_n_1 (pc := 4) dX7_parted_4 ?_
  refine ev_iconst (pc := 5) (v := 1) dX7_parted_5 (by decide) ?_
  refine ev_icmp_le (pc := 6) (tgt := 11) dX7_parted_6 (by decide) (fun h6 => ?_) (fun h6 => by exact absurd h6 (by decide))
  refine ev_aload_n_0 (pc := 11) dX7_parted_11 ?_
  refine ev_getR (pc := 12) (r := 5) dX7_parted_12 fl_X7_19 (by decide) (by decide) (by decide) (by decide) ?_
  refine ev_aload_n_0 (pc := 15) dX7_parted_15 ?_
  refine ev_getR (pc := 16) (r := 39) dX7_parted_16 fl_X7_26 (by decide) (by decide) (by decide) (by decide) ?_
  refine ev_getR (pc := 19) (r := 41) dX7_parted_19 fl_X7_100 (by decide) (by decide) (by decide) (by decide) ?_
  refine ev_callV1 (pc := 22) dX7_parted_22 ml_X7_169 (m_X0_bestParting isA_41 (by decide) _ h.n6 σ h.m) (by decide) ⟨_, rfl, rfl⟩ rfl (by decide) rfl (Nat.le_of_ble_eq_true rfl) ?_
  refine ev_istore_n_2 (pc := 25) dX7_parted_25 (by decide) ?_
  refine ev_iload_n_1 (pc := 26) dX7_parted_26 ?_
  refine ev_if_ne (pc := 27) (tgt := 34) dX7_parted_27 (by decide) (fun h27 => by exact absurd h27 (by decide)) (fun h27 => ?_)
  refine ev_iload_n_2 (pc := 30) dX7_parted_30 ?_
  refine ev_goto (pc := 31) (tgt := 42) dX7_parted_31 (by decide) ?_
  exact ev_ireturn (pc := 42) dX7_parted_42 rfl rfl (⟨by rw [h.bp], h.lmMv _ _, frC_lmW⟩)
set_option maxRecDepth 100000 in
theorem m_X7_parted1 {S : Scr} {A : Abs} (σ : Sto) (h : RC A σ) : Mt S yX7_parted cX7_parted 3 (some .int) 5 [.ref 0, .int 1] σ (PC A σ (pmB (aN A) (lmFA A) (bpA A))) := by
  refine mt_of (ls := [.ref 0, .int 1, .null]) (by decide) rfl (Nat.le_of_ble_eq_true rfl) (by simp [Value.category]) ?_
  have hbl : bpB σ 41 (aN A) < 2 ^ aN A := bpI_lt (evry_n _ h.n6).2.2 _ (Nat.le_refl _)
  refine ev_iload_n_1 (pc := 0) dX7_parted_0 ?_
  refine ev_if_lt (pc := 1) (tgt := 9) dX7_parted_1 (by decide) (fun h1 => by exact absurd h1 (by decide)) (fun h1 => ?_)
  refine ev_iload_n_1 (pc := 4) dX7_parted_4 ?_
  refine ev_iconst (pc := 5) (v := 1) dX7_parted_5 (by decide) ?_
  refine ev_icmp_le (pc := 6) (tgt := 11) dX7_parted_6 (by decide) (fun h6 => ?_) (fun h6 => by exact absurd h6 (by decide))
  refine ev_aload_n_0 (pc := 11) dX7_parted_11 ?_
  refine ev_getR (pc := 12) (r := 5) dX7_parted_12 fl_X7_19 (by decide) (by decide) (by decide) (by decide) ?_
  refine ev_aload_n_0 (pc := 15) dX7_parted_15 ?_
  refine ev_getR (pc := 16) (r := 39) dX7_parted_16 fl_X7_26 (by decide) (by decide) (by decide) (by decide) ?_
  refine ev_getR (pc := 19) (r := 41) dX7_parted_19 fl_X7_100 (by decide) (by decide) (by decide) (by decide) ?_
  refine ev_callV1 (pc := 22) dX7_parted_22 ml_X7_169 (m_X0_bestParting isA_41 (by decide) _ h.n6 σ h.m) (by decide) ⟨_, rfl, rfl⟩ rfl (by decide) rfl (Nat.le_of_ble_eq_true rfl) ?_
  refine ev_istore_n_2 (pc := 25) dX7_parted_25 (by decide) ?_
  refine ev_iload_n_1 (pc := 26) dX7_parted_26 ?_
  refine ev_if_ne (pc := 27) (tgt := 34) dX7_parted_27 (by decide) (fun h27 => ?_) (fun h27 => by exact absurd h27 (by decide))
  refine ev_aload_n_0 (pc := 34) dX7_parted_34 ?_
  refine ev_getR (pc := 35) (r := 5) dX7_parted_35 fl_X7_19 (by decide) (by decide) (by decide) (by decide) ?_
  refine ev_iload_n_2 (pc := 38) dX7_parted_38 ?_
  refine ev_callV1 (pc := 39) dX7_parted_39 ml_X7_172 (m_X0_partedMind _ h.n6 _ hbl _ (h.lmMv _ _).m) (by decide) ⟨_, rfl, rfl⟩ rfl (by decide) rfl (Nat.le_of_ble_eq_true rfl) ?_
  exact ev_ireturn (pc := 42) dX7_parted_42 rfl rfl (⟨by rw [pmB_congr (g := lmFA A) (fun i hi => by rw [lmW_at hi]; exact h.lmF i) hbl, h.bp], h.lmMv _ _, frC_lmW⟩)
set_option maxRecDepth 100000 in
theorem m_X7_parted0 {S : Scr} (p : Int32) (hp : ¬ (¬ p < 0 ∧ p ≤ 1)) (σ : Sto) : Mt S yX7_parted cX7_parted 3 (some .int) 5 [.ref 0, .int p] σ (Is (some (.int (-1))) σ) := by
  refine mt_of (ls := [.ref 0, .int p, .null]) (by decide) rfl (Nat.le_of_ble_eq_true rfl) (by simp [Value.category]) ?_
  refine ev_iload_n_1 (pc := 0) dX7_parted_0 ?_
  refine ev_if_lt (pc := 1) (tgt := 9) dX7_parted_1 (by decide) (fun h1 => ?_) (fun h1 => ?_)
  · skip
    refine ev_iconst (pc := 9) (v := (-1)) dX7_parted_9 (by decide) ?_
    exact ev_ireturn (pc := 10) dX7_parted_10 rfl rfl (⟨rfl, rfl⟩)
  · skip
    refine ev_iload_n_1 (pc := 4) dX7_parted_4 ?_
    refine ev_iconst (pc := 5) (v := 1) dX7_parted_5 (by decide) ?_
    refine ev_icmp_le (pc := 6) (tgt := 11) dX7_parted_6 (by decide) (fun h6 => ?_) (fun h6 => ?_)
    · skip
      exact absurd ⟨h1, h6⟩ hp
    · skip
      refine ev_iconst (pc := 9) (v := (-1)) dX7_parted_9 (by decide) ?_
      exact ev_ireturn (pc := 10) dX7_parted_10 rfl rfl (⟨rfl, rfl⟩)
abbrev clmA (A : Abs) (x : Int32) (b : Nat) : Int32 := calmC (aL A b) (aB A b) (aC A).1 x
def cwA (A : Abs) (x : Int32) : Nat → Int32 := itN (fun b w => cwStep (clmA A x b) b w) (aN A) (fun j => if j = 0 then 1 else 0)
theorem cwStep_congr {c : Int32} {b : Nat} {w w' : Nat → Int32} (h : ∀ j, j < 7 → w j = w' j) : ∀ j, j < 7 → cwStep c b w j = cwStep c b w' j := by
  intro j hj
  unfold cwStep
  rw [h 0 (by decide), h j hj, h (j - 1) (by omega)]
theorem RC.cw {A : Abs} {σ : Sto} (h : RC A σ) (x : Int32) : ∀ j, j < 7 → cwF σ x (aN A) j = cwA A x j := by
  have hc : ∀ b, b < aN A → calmA σ x b = clmA A x b := fun b hb => by
    show calmC (σ.1 (25 + 2 * b + 1)) (σ.1 (25 + 2 * b) 1) (σ.1 40) x = calmC (aL A b) (aB A b) (aC A).1 x
    unfold calmC
    rw [(h.2.1.2 b hb).2, mienD_congr (h.2.1.2 b hb).1 (fun p hp => h.potE hp), mienD_congr (h.2.1.2 b hb).1 (fun p hp => h.potE hp)]
  have key : ∀ k, k ≤ aN A → ∀ j, j < 7 → itN (fun b w => cwStep (calmA σ x b) b w) k (fun j => if j = 0 then 1 else if j < 7 then 0 else σ.1 8 j) j = itN (fun b w => cwStep (clmA A x b) b w) k (fun j => if j = 0 then 1 else 0) j := by
    intro k
    induction k with
    | zero => intro _ j hj; show (if j = 0 then (1 : Int32) else if j < 7 then 0 else σ.1 8 j) = if j = 0 then 1 else 0; rw [if_pos hj]
    | succ k ih =>
      intro hk j hj
      rw [itN, itN, hc k (by omega)]
      exact cwStep_congr (ih (by omega)) j hj
  exact key _ (Nat.le_refl _)
theorem wfD_congr {f g : Nat → Int32} (h : ∀ j, j < 7 → f j = g j) (k : Nat) (hk : k < 7) : wfD f k = wfD g k := itN_congr _ _ (fun i hi a => by show a + f (k + i) = a + g (k + i); rw [h _ (by omega)])
theorem RC.rs8 {A : Abs} {σ : Sto} (h : RC A σ) (w : Nat → Int32) : RC A (rowSet σ 8 w) := h.mv2 rfl (fun c j h1 h2 h3 h4 h5 h6 => by rw [rowSet_ne (by omega)])
theorem frC_rs8 {σ : Sto} {w : Nat → Int32} : FrC σ (rowSet σ 8 w) := FrC.of (fun c hc => rowSet_ne (by omega)) rfl
set_option maxRecDepth 100000 in
theorem m_X7_odds {S : Scr} {A : Abs} (x : Int32) (hx : ¬ x < 0 ∧ x ≤ 10) (k : Nat) (hk : k < 7) (w : Int32) (hw : ¬ w < 0 ∧ w ≤ 1) (σ : Sto) (h : RC A σ) : Mt S yX7_odds cX7_odds 4 (some .int) 3 [.ref 0, .int x, .int (nI k), .int w] σ (PC A σ (iltD (wfD (cwA A x) k) (wfD (cwA A x) 0) w)) := by
  refine mt_of (ls := [.ref 0, .int x, .int (nI k), .int w]) (by decide) rfl (Nat.le_of_ble_eq_true rfl) (by simp [Value.category]) ?_
  refine ev_iload_n_1 (pc := 0) dX7_odds_0 ?_
  refine ev_if_lt (pc := 1) (tgt := 29) dX7_odds_1 (by decide) (fun h1 => by exact absurd h1 hx.1) (fun h1 => ?_)
  refine ev_iload_n_1 (pc := 4) dX7_odds_4 ?_
  refine ev_bipush (pc := 5) (v := 10) dX7_odds_5 (by decide) ?_
  refine ev_icmp_gt (pc := 7) (tgt := 29) dX7_odds_7 (by decide) (fun h7 => by exact absurd hx.2 (Int32.not_le.mpr h7)) (fun h7 => ?_)
  refine ev_iload_n_2 (pc := 10) dX7_odds_10 ?_
  refine ev_if_lt (pc := 11) (tgt := 29) dX7_odds_11 (by decide) (fun h11 => by exact absurd h11 (nI_pos (by omega))) (fun h11 => ?_)
  refine ev_iload_n_2 (pc := 14) dX7_odds_14 ?_
  refine ev_bipush (pc := 15) (v := 6) dX7_odds_15 (by decide) ?_
  refine ev_icmp_gt (pc := 17) (tgt := 29) dX7_odds_17 (by decide) (fun h17 => by exact absurd h17 (nI_nlt (a := 6) (b := k) (by omega) (by decide))) (fun h17 => ?_)
  refine ev_iload_n_3 (pc := 20) dX7_odds_20 ?_
  refine ev_if_lt (pc := 21) (tgt := 29) dX7_odds_21 (by decide) (fun h21 => by exact absurd h21 hw.1) (fun h21 => ?_)
  refine ev_iload_n_3 (pc := 24) dX7_odds_24 ?_
  refine ev_iconst (pc := 25) (v := 1) dX7_odds_25 (by decide) ?_
  refine ev_icmp_le (pc := 26) (tgt := 31) dX7_odds_26 (by decide) (fun h26 => ?_) (fun h26 => by exact absurd hw.2 h26)
  refine ev_aload_n_0 (pc := 31) dX7_odds_31 ?_
  refine ev_getR (pc := 32) (r := 5) dX7_odds_32 fl_X7_19 (by decide) (by decide) (by decide) (by decide) ?_
  refine ev_aload_n_0 (pc := 35) dX7_odds_35 ?_
  refine ev_getR (pc := 36) (r := 39) dX7_odds_36 fl_X7_26 (by decide) (by decide) (by decide) (by decide) ?_
  refine ev_getR (pc := 39) (r := 40) dX7_odds_39 fl_X7_81 (by decide) (by decide) (by decide) (by decide) ?_
  refine ev_iload_n_1 (pc := 42) dX7_odds_42 ?_
  refine ev_callV0 (pc := 43) dX7_odds_43 ml_X7_175 (m_X0_countWays _ h.n6 x σ h.m) (by decide) ⟨_, rfl, rfl⟩ rfl (by decide) rfl (Nat.le_of_ble_eq_true rfl) ?_
  refine ev_aload_n_0 (pc := 46) dX7_odds_46 ?_
  refine ev_getR (pc := 47) (r := 5) dX7_odds_47 fl_X7_19 (by decide) (by decide) (by decide) (by decide) ?_
  refine ev_iload_n_2 (pc := 50) dX7_odds_50 ?_
  refine ev_callV1 (pc := 51) dX7_odds_51 ml_X7_178 (m_X0_waysFrom k hk _) (by decide) ⟨_, rfl, rfl⟩ rfl (by decide) rfl (Nat.le_of_ble_eq_true rfl) ?_
  refine ev_aload_n_0 (pc := 54) dX7_odds_54 ?_
  refine ev_getR (pc := 55) (r := 5) dX7_odds_55 fl_X7_19 (by decide) (by decide) (by decide) (by decide) ?_
  refine ev_iconst (pc := 58) (v := 0) dX7_odds_58 (by decide) ?_
  refine ev_callV1 (pc := 59) dX7_odds_59 ml_X7_178 (m_X0_waysFrom 0 (by decide) _) (by decide) ⟨_, rfl, rfl⟩ rfl (by decide) rfl (Nat.le_of_ble_eq_true rfl) ?_
  refine ev_iload_n_3 (pc := 62) dX7_odds_62 ?_
  refine ev_callS1 (pc := 63) dX7_odds_63 ml_X7_181 (m_X7_inLeastTerms _ _ w _) rfl (by decide) rfl (Nat.le_of_ble_eq_true rfl) ?_
  exact ev_ireturn (pc := 66) dX7_odds_66 rfl rfl (⟨by rw [rowSet_at, wfD_congr (h.cw x) k hk, wfD_congr (h.cw x) 0 (by decide)], h.rs8 _, frC_rs8⟩)
theorem lt7 {k : Int32} (h : k ≤ 6) : k < 7 := by
  rw [tI_le, show (6 : Int32).toInt = 6 from rfl] at h
  rw [tI_lt, show (7 : Int32).toInt = 7 from rfl]
  omega
set_option maxRecDepth 100000 in
theorem m_X7_odds0 {S : Scr} (x k w : Int32) (hb : ¬ ((¬ x < 0 ∧ x ≤ 10) ∧ (¬ k < 0 ∧ k < 7) ∧ ¬ w < 0 ∧ w ≤ 1)) (σ : Sto) : Mt S yX7_odds cX7_odds 4 (some .int) 3 [.ref 0, .int x, .int k, .int w] σ (Is (some (.int (-1))) σ) := by
  refine mt_of (ls := [.ref 0, .int x, .int k, .int w]) (by decide) rfl (Nat.le_of_ble_eq_true rfl) (by simp [Value.category]) ?_
  refine ev_iload_n_1 (pc := 0) dX7_odds_0 ?_
  refine ev_if_lt (pc := 1) (tgt := 29) dX7_odds_1 (by decide) (fun h1 => ?_) (fun h1 => ?_)
  · skip
    refine ev_iconst (pc := 29) (v := (-1)) dX7_odds_29 (by decide) ?_
    exact ev_ireturn (pc := 30) dX7_odds_30 rfl rfl (⟨rfl, rfl⟩)
  · skip
    refine ev_iload_n_1 (pc := 4) dX7_odds_4 ?_
    refine ev_bipush (pc := 5) (v := 10) dX7_odds_5 (by decide) ?_
    refine ev_icmp_gt (pc := 7) (tgt := 29) dX7_odds_7 (by decide) (fun h7 => ?_) (fun h7 => ?_)
    · skip
      refine ev_iconst (pc := 29) (v := (-1)) dX7_odds_29 (by decide) ?_
      exact ev_ireturn (pc := 30) dX7_odds_30 rfl rfl (⟨rfl, rfl⟩)
    · skip
      refine ev_iload_n_2 (pc := 10) dX7_odds_10 ?_
      refine ev_if_lt (pc := 11) (tgt := 29) dX7_odds_11 (by decide) (fun h11 => ?_) (fun h11 => ?_)
      · skip
        refine ev_iconst (pc := 29) (v := (-1)) dX7_odds_29 (by decide) ?_
        exact ev_ireturn (pc := 30) dX7_odds_30 rfl rfl (⟨rfl, rfl⟩)
      · skip
        refine ev_iload_n_2 (pc := 14) dX7_odds_14 ?_
        refine ev_bipush (pc := 15) (v := 6) dX7_odds_15 (by decide) ?_
        refine ev_icmp_gt (pc := 17) (tgt := 29) dX7_odds_17 (by decide) (fun h17 => ?_) (fun h17 => ?_)
        · skip
          refine ev_iconst (pc := 29) (v := (-1)) dX7_odds_29 (by decide) ?_
          exact ev_ireturn (pc := 30) dX7_odds_30 rfl rfl (⟨rfl, rfl⟩)
        · skip
          refine ev_iload_n_3 (pc := 20) dX7_odds_20 ?_
          refine ev_if_lt (pc := 21) (tgt := 29) dX7_odds_21 (by decide) (fun h21 => ?_) (fun h21 => ?_)
          · skip
            refine ev_iconst (pc := 29) (v := (-1)) dX7_odds_29 (by decide) ?_
            exact ev_ireturn (pc := 30) dX7_odds_30 rfl rfl (⟨rfl, rfl⟩)
          · skip
            refine ev_iload_n_3 (pc := 24) dX7_odds_24 ?_
            refine ev_iconst (pc := 25) (v := 1) dX7_odds_25 (by decide) ?_
            refine ev_icmp_le (pc := 26) (tgt := 31) dX7_odds_26 (by decide) (fun h26 => ?_) (fun h26 => ?_)
            · skip
              exact absurd ⟨⟨h1, Int32.not_lt.mp h7⟩, ⟨h11, lt7 (Int32.not_lt.mp h17)⟩, h21, h26⟩ hb
            · skip
              refine ev_iconst (pc := 29) (v := (-1)) dX7_odds_29 (by decide) ?_
              exact ev_ireturn (pc := 30) dX7_odds_30 rfl rfl (⟨rfl, rfl⟩)
abbrev fitA (A : Abs) (r : Nat) : Prop := ∀ e ∈ aS A, mienD (dg r) 0 e.1 0 = e.2
theorem RC.fit {A : Abs} {σ : Sto} (h : RC A σ) (r : Nat) : fitP σ (aS A).length r ↔ fitA A r := by
  obtain ⟨-, s2⟩ := h.2.2.2.2.2.1
  constructor
  · intro g e he
    obtain ⟨i, hi⟩ := List.getElem?_of_mem he
    have := g i (List.getElem?_eq_some_iff.mp hi).1
    rw [(s2 i e hi).2, mienD_congr (l' := dg r) (fun _ _ => rfl) (s2 i e hi).1] at this
    exact this
  · intro g i hi
    have he : (aS A)[i]? = some (aS A)[i] := List.getElem?_eq_getElem hi
    rw [(s2 i _ he).2, mienD_congr (l' := dg r) (fun _ _ => rfl) (s2 i _ he).1]
    exact g _ (List.getElem_mem hi)
abbrev liS (A : Abs) (p r : Nat) (a : Int32 × Int32 × Int32) : Int32 × Int32 × Int32 := if fitA A r then (a.1 + 1, mnI a.2.1 (dg r p), mxI a.2.2 (dg r p)) else a
def liA (A : Abs) (p : Nat) : Int32 × Int32 × Int32 := itN (liS A p) 1296 (0, 5, 0)
theorem RC.ga {A : Abs} {σ : Sto} (h : RC A σ) (p : Nat) (L : Nat → Int32) : ∀ n, (itN (gaS σ (aS A).length p) n (L, 0, 5, 0)).2 = itN (liS A p) n (0, 5, 0) := by
  intro n
  induction n with
  | zero => rfl
  | succ n ih =>
    rw [itN, itN, ← ih]
    unfold gaS liS
    by_cases q : fitA A n
    · rw [if_pos ((h.fit n).mpr q), if_pos q]
    · rw [if_neg (fun z => q ((h.fit n).mp z)), if_neg q]
theorem RC.gaMv {A : Abs} {σ : Sto} (h : RC A σ) (a : (Nat → Int32) × Int32 × Int32 × Int32) : RC A (gaW σ a) := h.mv2 rfl (fun c j h1 h2 h3 h4 h5 h6 => by
  unfold gaW
  by_cases e : c = 13
  · subst e; simp [show ¬ j = 4 by omega, show ¬ j = 5 by omega, show ¬ j = 6 by omega]
  · simp [e, h2])
theorem frC_gaW {σ : Sto} {a : (Nat → Int32) × Int32 × Int32 × Int32} : FrC σ (gaW σ a) := FrC.of (fun c hc => by funext j; unfold gaW; simp [show ¬ c = 13 by omega, show ¬ c = 38 by omega]) rfl
theorem RC.liE {A : Abs} {σ : Sto} (h : RC A σ) (p : Nat) : (gaW σ (gaB σ (aS A).length p)).1 13 4 = (liA A p).1 ∧ (gaW σ (gaB σ (aS A).length p)).1 13 5 = (liA A p).2.1 ∧ (gaW σ (gaB σ (aS A).length p)).1 13 6 = (liA A p).2.2 := by
  have e := h.ga p (σ.1 38) 1296
  have e' : (gaB σ (aS A).length p).2 = liA A p := e
  rw [← e']
  exact ⟨rfl, rfl, rfl⟩
set_option maxRecDepth 100000 in
theorem m_X7_likings0 {S : Scr} {A : Abs} (p : Nat) (hp : p < 4) (σ : Sto) (h : RC A σ) : Mt S yX7_likings cX7_likings 3 (some .int) 4 [.ref 0, .int (nI p), .int 0] σ (PC A σ ((liA A p).1)) := by
  refine mt_of (ls := [.ref 0, .int (nI p), .int 0]) (by decide) rfl (Nat.le_of_ble_eq_true rfl) (by simp [Value.category]) ?_
  obtain ⟨e1, e2, e3⟩ := h.liE p
  refine ev_iload_n_1 (pc := 0) dX7_likings_0 ?_
  refine ev_callS1 (pc := 1) dX7_likings_1 ml_X7_77 (m_X7_isPart _ σ) rfl (by decide) rfl (Nat.le_of_ble_eq_true rfl) ?_
  rw [part_t hp]
  refine ev_if_eq (pc := 4) (tgt := 16) dX7_likings_4 (by decide) (fun h4 => by exact absurd h4 (by decide)) (fun h4 => ?_)
  refine ev_iload_n_2 (pc := 7) dX7_likings_7 ?_
  refine ev_if_lt (pc := 8) (tgt := 16) dX7_likings_8 (by decide) (fun h8 => by exact absurd h8 (by decide)) (fun h8 => ?_)
  refine ev_iload_n_2 (pc := 11) dX7_likings_11 ?_
  refine ev_iconst (pc := 12) (v := 2) dX7_likings_12 (by decide) ?_
  refine ev_icmp_le (pc := 13) (tgt := 18) dX7_likings_13 (by decide) (fun h13 => ?_) (fun h13 => by exact absurd h13 (by decide))
  refine ev_aload_n_0 (pc := 18) dX7_likings_18 ?_
  refine ev_getR (pc := 19) (r := 13) dX7_likings_19 fl_X7_48 (by decide) (by decide) (by decide) (by decide) ?_
  refine ev_iload_n_1 (pc := 22) dX7_likings_22 ?_
  refine ev_callV0 (pc := 23) dX7_likings_23 ml_X7_191 (m_X4_gather _ h.1.2.2.2.2.2.2.2.1 p hp σ h.2.2.2.2.2.1.1 h.2.2.2.2.2.2.2.2.2) (by decide) ⟨_, rfl, rfl⟩ rfl (by decide) rfl (Nat.le_of_ble_eq_true rfl) ?_
  refine ev_iload_n_2 (pc := 26) dX7_likings_26 ?_
  refine ev_if_ne (pc := 27) (tgt := 38) dX7_likings_27 (by decide) (fun h27 => by exact absurd h27 (by decide)) (fun h27 => ?_)
  refine ev_aload_n_0 (pc := 30) dX7_likings_30 ?_
  refine ev_getR (pc := 31) (r := 13) dX7_likings_31 fl_X7_48 (by decide) (by decide) (by decide) (by decide) ?_
  refine ev_getI (pc := 34) dX7_likings_34 fl_X7_195 (by decide) (by decide) (by decide) ?_
  exact ev_ireturn (pc := 37) dX7_likings_37 rfl rfl (⟨by rw [e1], h.gaMv _, frC_gaW⟩)
set_option maxRecDepth 100000 in
theorem m_X7_likings1 {S : Scr} {A : Abs} (p : Nat) (hp : p < 4) (σ : Sto) (h : RC A σ) : Mt S yX7_likings cX7_likings 3 (some .int) 4 [.ref 0, .int (nI p), .int 1] σ (PC A σ (if (liA A p).1 = 0 then -9 else (liA A p).2.1)) := by
  refine mt_of (ls := [.ref 0, .int (nI p), .int 1]) (by decide) rfl (Nat.le_of_ble_eq_true rfl) (by simp [Value.category]) ?_
  obtain ⟨e1, e2, e3⟩ := h.liE p
  refine ev_iload_n_1 (pc := 0) dX7_likings_0 ?_
  refine ev_callS1 (pc := 1) dX7_likings_1 ml_X7_77 (m_X7_isPart _ σ) rfl (by decide) rfl (Nat.le_of_ble_eq_true rfl) ?_
  rw [part_t hp]
  refine ev_if_eq (pc := 4) (tgt := 16) dX7_likings_4 (by decide) (fun h4 => by exact absurd h4 (by decide)) (fun h4 => ?_)
  refine ev_iload_n_2 (pc := 7) dX7_likings_7 ?_
  refine ev_if_lt (pc := 8) (tgt := 16) dX7_likings_8 (by decide) (fun h8 => by exact absurd h8 (by decide)) (fun h8 => ?_)
  refine ev_iload_n_2 (pc := 11) dX7_likings_11 ?_
  refine ev_iconst (pc := 12) (v := 2) dX7_likings_12 (by decide) ?_
  refine ev_icmp_le (pc := 13) (tgt := 18) dX7_likings_13 (by decide) (fun h13 => ?_) (fun h13 => by exact absurd h13 (by decide))
  refine ev_aload_n_0 (pc := 18) dX7_likings_18 ?_
  refine ev_getR (pc := 19) (r := 13) dX7_likings_19 fl_X7_48 (by decide) (by decide) (by decide) (by decide) ?_
  refine ev_iload_n_1 (pc := 22) dX7_likings_22 ?_
  refine ev_callV0 (pc := 23) dX7_likings_23 ml_X7_191 (m_X4_gather _ h.1.2.2.2.2.2.2.2.1 p hp σ h.2.2.2.2.2.1.1 h.2.2.2.2.2.2.2.2.2) (by decide) ⟨_, rfl, rfl⟩ rfl (by decide) rfl (Nat.le_of_ble_eq_true rfl) ?_
  refine ev_iload_n_2 (pc := 26) dX7_likings_26 ?_
  refine ev_if_ne (pc := 27) (tgt := 38) dX7_likings_27 (by decide) (fun h27 => ?_) (fun h27 => by exact absurd h27 (by decide))
  refine ev_aload_n_0 (pc := 38) dX7_likings_38 ?_
  refine ev_getR (pc := 39) (r := 13) dX7_likings_39 fl_X7_48 (by decide) (by decide) (by decide) (by decide) ?_
  refine ev_getI (pc := 42) dX7_likings_42 fl_X7_195 (by decide) (by decide) (by decide) ?_
  rw [e1]
  refine ev_if_ne (pc := 45) (tgt := 51) dX7_likings_45 (by decide) (fun h45 => ?_) (fun h45 => ?_)
  · skip
    refine ev_iload_n_2 (pc := 51) dX7_likings_51 ?_
    refine ev_iconst (pc := 52) (v := 1) dX7_likings_52 (by decide) ?_
    refine ev_icmp_ne (pc := 53) (tgt := 66) dX7_likings_53 (by decide) (fun h53 => by exact absurd h53 (by decide)) (fun h53 => ?_)
    refine ev_aload_n_0 (pc := 56) dX7_likings_56 ?_
    refine ev_getR (pc := 57) (r := 13) dX7_likings_57 fl_X7_48 (by decide) (by decide) (by decide) (by decide) ?_
    refine ev_getI (pc := 60) dX7_likings_60 fl_X7_198 (by decide) (by decide) (by decide) ?_
    refine ev_goto (pc := 63) (tgt := 73) dX7_likings_63 (by decide) ?_
    exact ev_ireturn (pc := 73) dX7_likings_73 rfl rfl (⟨by rw [if_neg h45, e2], h.gaMv _, frC_gaW⟩)
  · skip
    refine ev_bipush (pc := 48) (v := (-9)) dX7_likings_48 (by decide) ?_
    exact ev_ireturn (pc := 50) dX7_likings_50 rfl rfl (⟨by rw [if_pos h45], h.gaMv _, frC_gaW⟩)
set_option maxRecDepth 100000 in
theorem m_X7_likings2 {S : Scr} {A : Abs} (p : Nat) (hp : p < 4) (σ : Sto) (h : RC A σ) : Mt S yX7_likings cX7_likings 3 (some .int) 4 [.ref 0, .int (nI p), .int 2] σ (PC A σ (if (liA A p).1 = 0 then -9 else (liA A p).2.2)) := by
  refine mt_of (ls := [.ref 0, .int (nI p), .int 2]) (by decide) rfl (Nat.le_of_ble_eq_true rfl) (by simp [Value.category]) ?_
  obtain ⟨e1, e2, e3⟩ := h.liE p
  refine ev_iload_n_1 (pc := 0) dX7_likings_0 ?_
  refine ev_callS1 (pc := 1) dX7_likings_1 ml_X7_77 (m_X7_isPart _ σ) rfl (by decide) rfl (Nat.le_of_ble_eq_true rfl) ?_
  rw [part_t hp]
  refine ev_if_eq (pc := 4) (tgt := 16) dX7_likings_4 (by decide) (fun h4 => by exact absurd h4 (by decide)) (fun h4 => ?_)
  refine ev_iload_n_2 (pc := 7) dX7_likings_7 ?_
  refine ev_if_lt (pc := 8) (tgt := 16) dX7_likings_8 (by decide) (fun h8 => by exact absurd h8 (by decide)) (fun h8 => ?_)
  refine ev_iload_n_2 (pc := 11) dX7_likings_11 ?_
  refine ev_iconst (pc := 12) (v := 2) dX7_likings_12 (by decide) ?_
  refine ev_icmp_le (pc := 13) (tgt := 18) dX7_likings_13 (by decide) (fun h13 => ?_) (fun h13 => by exact absurd h13 (by decide))
  refine ev_aload_n_0 (pc := 18) dX7_likings_18 ?_
  refine ev_getR (pc := 19) (r := 13) dX7_likings_19 fl_X7_48 (by decide) (by decide) (by decide) (by decide) ?_
  refine ev_iload_n_1 (pc := 22) dX7_likings_22 ?_
  refine ev_callV0 (pc := 23) dX7_likings_23 ml_X7_191 (m_X4_gather _ h.1.2.2.2.2.2.2.2.1 p hp σ h.2.2.2.2.2.1.1 h.2.2.2.2.2.2.2.2.2) (by decide) ⟨_, rfl, rfl⟩ rfl (by decide) rfl (Nat.le_of_ble_eq_true rfl) ?_
  refine ev_iload_n_2 (pc := 26) dX7_likings_26 ?_
  refine ev_if_ne (pc := 27) (tgt := 38) dX7_likings_27 (by decide) (fun h27 => ?_) (fun h27 => by exact absurd h27 (by decide))
  refine ev_aload_n_0 (pc := 38) dX7_likings_38 ?_
  refine ev_getR (pc := 39) (r := 13) dX7_likings_39 fl_X7_48 (by decide) (by decide) (by decide) (by decide) ?_
  refine ev_getI (pc := 42) dX7_likings_42 fl_X7_195 (by decide) (by decide) (by decide) ?_
  rw [e1]
  refine ev_if_ne (pc := 45) (tgt := 51) dX7_likings_45 (by decide) (fun h45 => ?_) (fun h45 => ?_)
  · skip
    refine ev_iload_n_2 (pc := 51) dX7_likings_51 ?_
    refine ev_iconst (pc := 52) (v := 1) dX7_likings_52 (by decide) ?_
    refine ev_icmp_ne (pc := 53) (tgt := 66) dX7_likings_53 (by decide) (fun h53 => ?_) (fun h53 => by exact absurd h53 (by decide))
    refine ev_aload_n_0 (pc := 66) dX7_likings_66 ?_
    refine ev_getR (pc := 67) (r := 13) dX7_likings_67 fl_X7_48 (by decide) (by decide) (by decide) (by decide) ?_
    refine ev_getI (pc := 70) dX7_likings_70 fl_X7_201 (by decide) (by decide) (by decide) ?_
    exact ev_ireturn (pc := 73) dX7_likings_73 rfl rfl (⟨by rw [if_neg h45, e3], h.gaMv _, frC_gaW⟩)
  · skip
    refine ev_bipush (pc := 48) (v := (-9)) dX7_likings_48 (by decide) ?_
    exact ev_ireturn (pc := 50) dX7_likings_50 rfl rfl (⟨by rw [if_pos h45], h.gaMv _, frC_gaW⟩)
set_option maxRecDepth 100000 in
theorem m_X7_likings_0 {S : Scr} (p w : Int32) (hb : ¬ (okP p ∧ ¬ w < 0 ∧ w ≤ 2)) (σ : Sto) : Mt S yX7_likings cX7_likings 3 (some .int) 4 [.ref 0, .int p, .int w] σ (Is (some (.int (-1))) σ) := by
  refine mt_of (ls := [.ref 0, .int p, .int w]) (by decide) rfl (Nat.le_of_ble_eq_true rfl) (by simp [Value.category]) ?_
  refine ev_iload_n_1 (pc := 0) dX7_likings_0 ?_
  refine ev_callS1 (pc := 1) dX7_likings_1 ml_X7_77 (m_X7_isPart _ σ) rfl (by decide) rfl (Nat.le_of_ble_eq_true rfl) ?_
  refine ev_if_eq (pc := 4) (tgt := 16) dX7_likings_4 (by decide) (fun h4 => ?_) (fun h4 => ?_)
  · skip
    refine ev_iconst (pc := 16) (v := (-1)) dX7_likings_16 (by decide) ?_
    exact ev_ireturn (pc := 17) dX7_likings_17 rfl rfl (⟨rfl, rfl⟩)
  · skip
    refine ev_iload_n_2 (pc := 7) dX7_likings_7 ?_
    refine ev_if_lt (pc := 8) (tgt := 16) dX7_likings_8 (by decide) (fun h8 => ?_) (fun h8 => ?_)
    · skip
      refine ev_iconst (pc := 16) (v := (-1)) dX7_likings_16 (by decide) ?_
      exact ev_ireturn (pc := 17) dX7_likings_17 rfl rfl (⟨rfl, rfl⟩)
    · skip
      refine ev_iload_n_2 (pc := 11) dX7_likings_11 ?_
      refine ev_iconst (pc := 12) (v := 2) dX7_likings_12 (by decide) ?_
      refine ev_icmp_le (pc := 13) (tgt := 18) dX7_likings_13 (by decide) (fun h13 => ?_) (fun h13 => ?_)
      · skip
        exact absurd ⟨Decidable.not_not.mp (fun z => h4 (bI0.mpr z)), h8, h13⟩ hb
      · skip
        refine ev_iconst (pc := 16) (v := (-1)) dX7_likings_16 (by decide) ?_
        exact ev_ireturn (pc := 17) dX7_likings_17 rfl rfl (⟨rfl, rfl⟩)
/-- the pot behind a deed (5: nothing) -/
abbrev chF (f : Nat → Int32) (d p : Nat) : Int32 := if d = 4 then mxI 0 (f p - 1) else if p = d then mnI 5 (f p + 1) else f p
theorem lt6_ne4 : ∀ d, d < 6 → (nI d = 4 ↔ d = 4) ∧ ((¬ nI d < 0 ∧ nI d < 4) ↔ d < 4) := by decide +kernel
theorem chg_F {τ : Sto} {a d p : Nat} {f : Nat → Int32} (hd : d < 6) (hp : p < 4) (h : ∀ p, p < 4 → τ.1 a p = f p) : (chgW τ a (nI d)).1 a p = chF f d p := by
  obtain ⟨h4, hl⟩ := lt6_ne4 d hd
  unfold chgW chF
  by_cases e : d = 4
  · rw [if_pos (h4.mpr e), if_pos e]
    unfold watW
    match p, hp with
    | 0, _ => simp [watS, wr, h 0 (by decide)]
    | 1, _ => simp [watS, wr, h 1 (by decide)]
    | 2, _ => simp [watS, wr, h 2 (by decide)]
    | 3, _ => simp [watS, wr, h 3 (by decide)]
  · rw [if_neg (fun z => e (h4.mp z)), if_neg e]
    by_cases e5 : d = 5
    · rw [if_neg (fun z => by have := hl.mp z; omega), if_neg (by omega), h p hp]
    · rw [if_pos (hl.mpr (by omega)), nI_clamp (by omega)]
      unfold addW
      by_cases e2 : p = d
      · rw [if_pos e2, e2, wr_at, h d (by omega)]
      · rw [if_neg e2, wr_nj e2, h p hp]
theorem fsW_at (σ : Sto) (d p : Nat) (hd : d < 6) (hp : p < 4) : (fsW σ).1 (105 + d) p = chF (σ.1 40) d p := by
  have key : ∀ n, n ≤ 6 → d < n → (itN fsS n σ).1 (105 + d) p = chF (σ.1 40) d p := by
    intro n
    induction n with
    | zero => intro _ h; omega
    | succ n ih =>
      intro hn h
      rw [itN]
      by_cases e : d = n
      · subst e
        show (flW (chgW (cp0 (itN fsS d σ) 40 (105 + d) 4) (105 + d) (nI d)) (111 + d) 0 9).1 (105 + d) p = _
        rw [flW_ne (by omega)]
        refine chg_F hd hp (fun q hq => ?_)
        have h40 : ∀ m, m ≤ 6 → (itN fsS m σ).1 40 = σ.1 40 := by
          intro m
          induction m with
          | zero => intro _; rfl
          | succ m im => intro hm; rw [itN, fsS_ne (by omega) (by omega)]; exact im (by omega)
        have := h40 d (by omega)
        unfold cp0
        simp only [hq, and_self, if_true]
        rw [this]
      · rw [fsS_ne (by omega) (by omega)]
        exact ih (by omega) (by omega)
  exact key 6 (Nat.le_refl 6) hd
def rwsA (A : Abs) : Int32 := itN (fun r a => if fitA A r then a + 1 else a) 1296 0
def cntD (A : Abs) (d m : Nat) : Int32 := itN (fun r a => if fitA A r ∧ mienD (dg r) 0 (chF (aC A).1 d) 0 = nI m then a + 1 else a) 1296 0
def askA (A : Abs) : Int32 := if 1 < rwsA A then nI (mtB (fun d => gm (fun m => cntD A d m))) else -9
theorem RC.ask {A : Abs} {σ : Sto} (h : RC A σ) : askD σ (aS A).length = askA A := by
  have e1 : rowsN σ (aS A).length 1296 = rwsA A := itN_congr _ _ (fun r hr a => by
    show (if fitP σ (aS A).length r then a + 1 else a) = if fitA A r then a + 1 else a
    by_cases q : fitA A r
    · rw [if_pos ((h.fit r).mpr q), if_pos q]
    · rw [if_neg (fun z => q ((h.fit r).mp z)), if_neg q])
  have e2 : ∀ d, d < 6 → ∀ m, cntN σ (aS A).length d m 1296 = cntD A d m := fun d hd m => itN_congr _ _ (fun r hr a => by
    have em : mienD (dg r) 0 (aftF σ d) 0 = mienD (dg r) 0 (chF (aC A).1 d) 0 := mienD_congr (fun _ _ => rfl) (fun p hp => by
      show (fsW σ).1 (105 + d) p = _
      rw [fsW_at σ d p hd hp]
      show (if d = 4 then mxI 0 (σ.1 40 p - 1) else if p = d then mnI 5 (σ.1 40 p + 1) else σ.1 40 p) = _
      rw [h.potE hp])
    show (if fitP σ (aS A).length r ∧ mienD (dg r) 0 (aftF σ d) 0 = nI m then a + 1 else a) = if fitA A r ∧ mienD (dg r) 0 (chF (aC A).1 d) 0 = nI m then a + 1 else a
    rw [em]
    by_cases q : fitA A r ∧ mienD (dg r) 0 (chF (aC A).1 d) 0 = nI m
    · rw [if_pos ⟨(h.fit r).mpr q.1, q.2⟩, if_pos q]
    · rw [if_neg (fun z => q ⟨(h.fit r).mp z.1, z.2⟩), if_neg q])
  have e3 : mtB (fun d => gm (fun m => cntN σ (aS A).length d m 1296)) = mtB (fun d => gm (fun m => cntD A d m)) := mtB_congr (fun d hd => gm_congr (fun m _ => e2 d hd m))
  show (if 1 < rowsN σ (aS A).length 1296 then nI (mtB (fun d => gm (fun m => cntN σ (aS A).length d m 1296))) else -9) = _
  rw [e1, e3]
  rfl
theorem RC.sx {A : Abs} {σ τ : Sto} (h : RC A σ) (g : Sx σ τ) : RC A τ := h.mv2 (by rw [g.1]) (fun c j h1 h2 h3 h4 h5 h6 => g.2 c j h2 h4 h5)
theorem frC_sx {σ τ : Sto} (g : Sx σ τ) : FrC σ τ := FrC.of (fun c hc => g.fn (by omega) (Or.inr hc) (by omega)) g.1
set_option maxRecDepth 100000 in
theorem m_X7_ask {S : Scr} {A : Abs} (σ : Sto) (h : RC A σ) : Mt S yX7_ask cX7_ask 1 (some .int) 4 [.ref 0] σ (PC A σ (askA A)) := by
  refine mt_of (ls := [.ref 0]) (by decide) rfl (Nat.le_of_ble_eq_true rfl) (by simp [Value.category]) ?_
  refine ev_aload_n_0 (pc := 0) dX7_ask_0 ?_
  refine ev_getR (pc := 1) (r := 13) dX7_ask_1 fl_X7_48 (by decide) (by decide) (by decide) (by decide) ?_
  refine ev_aload_n_0 (pc := 4) dX7_ask_4 ?_
  refine ev_getR (pc := 5) (r := 39) dX7_ask_5 fl_X7_26 (by decide) (by decide) (by decide) (by decide) ?_
  refine ev_getR (pc := 8) (r := 40) dX7_ask_8 fl_X7_81 (by decide) (by decide) (by decide) (by decide) ?_
  refine ev_callV (pc := 11) dX7_ask_11 ml_X7_204 (m_X4_bestQuestion _ h.1.2.2.2.2.2.2.2.1 σ h.2.2.2.2.2.1.1 h.2.2.2.2.2.2.2.2.2) (by decide) ⟨_, rfl, rfl⟩ rfl (by decide) rfl (Nat.le_of_ble_eq_true rfl) ?_
  rintro _ τ ⟨rfl, g⟩
  exact ev_ireturn (pc := 14) dX7_ask_14 rfl rfl (⟨by rw [h.ask], h.sx g, frC_sx g⟩)
