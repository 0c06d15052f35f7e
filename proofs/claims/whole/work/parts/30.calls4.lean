/-! ===== the class's calls, 4: plan, kitchen ===== -/
abbrev plA (A : Abs) (s : Int32) (x : Nat) : Prop := ∀ b, b < aN A → bit s b → mienD (aL A b) (aB A b) (dg x) ((aC A).2.1 b) = 0
def planR (A : Abs) (s k v : Int32) : Prop := ∃ x0, x0 < 1296 ∧ (∀ p, p < 4 → (aC A).1 p = dg x0 p) ∧ ((∃ l N, Frst (plA A s) x0 l N ∧ v = if k < 0 then nI l else if nI l ≤ k then -9 else nI (N / 5 ^ (l - 1 - k.toNatClampNeg) % 5)) ∨ ((∀ l N, l ≤ 5 → N < 5 ^ l → ¬ plA A s (runW x0 l N)) ∧ v = -9))
theorem frst_uniq {c : Nat → Prop} {x0 l N l' N' : Nat} (h : Frst c x0 l N) (h' : Frst c x0 l' N') : l = l' ∧ N = N' := by
  obtain ⟨a1, a2, a3, a4⟩ := h
  obtain ⟨b1, b2, b3, b4⟩ := h'
  rcases Nat.lt_trichotomy l l' with q | q | q
  · exact absurd a3 (b4 l N a2 (Or.inl q))
  · rcases Nat.lt_trichotomy N N' with z | z | z
    · exact absurd a3 (b4 l N a2 (Or.inr ⟨q, z⟩))
    · exact ⟨q, z⟩
    · exact absurd b3 (a4 l' N' b2 (Or.inr ⟨q.symm, z⟩))
  · exact absurd b3 (a4 l' N' b2 (Or.inl q))
theorem dg_inj {x y : Nat} (hx : x < 1296) (hy : y < 1296) (h : ∀ p, p < 4 → dg x p = dg y p) : x = y := by
  have e1 := num_t x hx
  have e2 := num_t y hy
  rw [h 0 (by decide), h 1 (by decide), h 2 (by decide), h 3 (by decide), e2] at e1
  exact (nI_inj e1 (by omega) (by omega)).symm
theorem planR_uniq {A : Abs} {s k v v' : Int32} (h : planR A s k v) (h' : planR A s k v') : v = v' := by
  obtain ⟨x, hx, hd, h⟩ := h
  obtain ⟨y, hy, hd', h'⟩ := h'
  obtain rfl : x = y := dg_inj hx hy (fun p hp => (hd p hp).symm.trans (hd' p hp))
  rcases h with ⟨l, N, f, e⟩ | ⟨f, e⟩ <;> rcases h' with ⟨l', N', f', e'⟩ | ⟨f', e'⟩
  · obtain ⟨rfl, rfl⟩ := frst_uniq f f'
    rw [e, e']
  · exact absurd f.2.2.1 (f' l N f.1 f.2.1)
  · exact absurd f'.2.2.1 (f l' N' f'.1 f'.2.1)
  · rw [e, e']
theorem okS_num {s : Scn} (h : okS s) : ∃ x0, x0 < 1296 ∧ ∀ p, p < 4 → s.1 p = dg x0 p := by
  obtain ⟨a, ha, ea⟩ := h.1 0 (by decide)
  obtain ⟨b, hb, eb⟩ := h.1 1 (by decide)
  obtain ⟨c, hc, ec⟩ := h.1 2 (by decide)
  obtain ⟨d, hd, ed⟩ := h.1 3 (by decide)
  refine ⟨((a * 6 + b) * 6 + c) * 6 + d, by omega, fun p hp => ?_⟩
  unfold dg
  match p, hp with
  | 0, _ => rw [ea]; simp only [if_true]; congr 1; omega
  | 1, _ => rw [eb]; simp only [if_true, if_neg (show ¬ (1 : Nat) = 0 by decide)]; congr 1; omega
  | 2, _ => rw [ec]; simp only [if_true, if_neg (show ¬ (2 : Nat) = 0 by decide), if_neg (show ¬ (2 : Nat) = 1 by decide)]; congr 1; omega
  | 3, _ => rw [ed]; simp only [if_neg (show ¬ (3 : Nat) = 0 by decide), if_neg (show ¬ (3 : Nat) = 1 by decide), if_neg (show ¬ (3 : Nat) = 2 by decide)]; congr 1; omega
theorem RC.sp {A : Abs} {σ τ : Sto} (h : RC A σ) (g : Sp σ τ) (hP : PI τ) : RC A τ := h.mv ⟨by rw [g.1], fun c j hr => g.2 c j (by omega) (by omega) (by omega)⟩ hP
theorem frC_sp {σ τ : Sto} (g : Sp σ τ) : FrC σ τ := FrC.of (fun c hc => g.fn (by omega) (Or.inr (by omega))) g.1
theorem RC.plC {A : Abs} {σ : Sto} (h : RC A σ) (s : Int32) : plC σ (aN A) s = plA A s := funext fun x => propext ⟨fun g b hb hs => by
    have := g b hb hs
    rw [(h.2.1.2 b hb).2, h.coldE (by have := h.n6; omega), mienD_congr (h.2.1.2 b hb).1 (fun _ _ => rfl)] at this
    exact this, fun g b hb hs => by
    rw [(h.2.1.2 b hb).2, h.coldE (by have := h.n6; omega), mienD_congr (h.2.1.2 b hb).1 (fun _ _ => rfl)]
    exact g b hb hs⟩
theorem km1 {k : Int32} (h : k < -1) : k < 0 := by
  rw [tI_lt, show (-1 : Int32).toInt = -1 from rfl] at h
  rw [tI_lt, Int32.toInt_zero]; omega
theorem k9 {k : Int32} (h : 0 ≤ k) : (-9 : Int32) ≤ k := by
  rw [tI_le, Int32.toInt_zero] at h
  rw [tI_le, show (-9 : Int32).toInt = -9 from rfl]; omega
theorem vkl {k : Int32} {l : Nat} (h0 : 0 ≤ k) (h : k < nI l) (hl : l ≤ 5) : k.toNatClampNeg < l := by
  rw [tI_le, Int32.toInt_zero] at h0
  rw [tI_lt, nI_toInt (by omega)] at h
  have := tn_of h0
  omega
theorem vk5 {k : Int32} {l : Nat} (h0 : 0 ≤ k) (h : k < nI l) (hl : l ≤ 5) : vp_in k 5 := by
  rw [tI_le, Int32.toInt_zero] at h0
  rw [tI_lt, nI_toInt (by omega)] at h
  exact vin h0 (by omega)
theorem m_X7_plan {S : Scr} {A : Abs} (s k : Int32) (hs : ¬ s < 0 ∧ s ≤ allA A) (hk : ¬ k < -1 ∧ k < 5) (σ : Sto) (h : RC A σ) : Mt S yX7_plan cX7_plan 4 (some .int) 5 [.ref 0, .int s, .int k] σ (fun r τ => (∃ v, r = some (.int v) ∧ planR A s k v) ∧ RC A τ ∧ FrC σ τ) := by
  refine mt_of (ls := [.ref 0, .int s, .int k, .null]) (by decide) rfl (Nat.le_of_ble_eq_true rfl) (by simp [Value.category]) ?_
  obtain ⟨x0, hx0, hd0⟩ := okS_num h.1.2.2.1
  refine ev_iload_n_1 (pc := 0) dX7_plan_0 ?_
  refine ev_if_lt (pc := 1) (tgt := 25) dX7_plan_1 (by decide) (fun h1 => by exact absurd h1 hs.1) (fun h1 => ?_)
  refine ev_iload_n_1 (pc := 4) dX7_plan_4 ?_
  refine ev_aload_n_0 (pc := 5) dX7_plan_5 ?_
  refine ev_getR (pc := 6) (r := 5) dX7_plan_6 fl_X7_19 (by decide) (by decide) (by decide) (by decide) ?_
  refine ev_callV1 (pc := 9) dX7_plan_9 ml_X7_151 (m_X0_everyone σ) (by decide) ⟨_, rfl, rfl⟩ rfl (by decide) rfl (Nat.le_of_ble_eq_true rfl) ?_
  rw [h.evry]
  refine ev_icmp_gt (pc := 12) (tgt := 25) dX7_plan_12 (by decide) (fun h12 => by exact absurd hs.2 (Int32.not_le.mpr h12)) (fun h12 => ?_)
  refine ev_iload_n_2 (pc := 15) dX7_plan_15 ?_
  refine ev_iconst (pc := 16) (v := (-1)) dX7_plan_16 (by decide) ?_
  refine ev_icmp_lt (pc := 17) (tgt := 25) dX7_plan_17 (by decide) (fun h17 => by exact absurd h17 hk.1) (fun h17 => ?_)
  refine ev_iload_n_2 (pc := 20) dX7_plan_20 ?_
  refine ev_iconst (pc := 21) (v := 5) dX7_plan_21 (by decide) ?_
  refine ev_icmp_lt (pc := 22) (tgt := 27) dX7_plan_22 (by decide) (fun h22 => ?_) (fun h22 => by exact absurd hk.2 h22)
  refine ev_aload_n_0 (pc := 27) dX7_plan_27 ?_
  refine ev_getR (pc := 28) (r := 18) dX7_plan_28 fl_X7_55 (by decide) (by decide) (by decide) (by decide) ?_
  refine ev_aload_n_0 (pc := 31) dX7_plan_31 ?_
  refine ev_getR (pc := 32) (r := 5) dX7_plan_32 fl_X7_19 (by decide) (by decide) (by decide) (by decide) ?_
  refine ev_aload_n_0 (pc := 35) dX7_plan_35 ?_
  refine ev_getR (pc := 36) (r := 39) dX7_plan_36 fl_X7_26 (by decide) (by decide) (by decide) (by decide) ?_
  refine ev_iload_n_1 (pc := 39) dX7_plan_39 ?_
  refine ev_callV (pc := 40) dX7_plan_40 ml_X7_154 (m_X2_search _ h.n6 s x0 hx0 σ h.m h.2.2.2.2.2.2.2.2.1 (fun p hp => (h.potE hp).trans (hd0 p hp))) (by decide) ⟨_, rfl, rfl⟩ rfl (by decide) rfl (Nat.le_of_ble_eq_true rfl) ?_
  intro rv τ g
  obtain ⟨g1, g2, g3⟩ := g
  rw [h.plC] at g3
  have hR := h.sp g1 g2
  have hF := frC_sp g1
  rcases g3 with ⟨l, N, f1, rfl, f3⟩ | ⟨f1, rfl⟩
  · skip
    refine ev_istore_n_3 (pc := 43) dX7_plan_43 (by decide) ?_
    refine ev_iload_n_2 (pc := 44) dX7_plan_44 ?_
    refine ev_if_ge (pc := 45) (tgt := 50) dX7_plan_45 (by decide) (fun h45 => ?_) (fun h45 => ?_)
    · skip
      refine ev_iload_n_2 (pc := 50) dX7_plan_50 ?_
      refine ev_iload_n_3 (pc := 51) dX7_plan_51 ?_
      refine ev_icmp_ge (pc := 52) (tgt := 67) dX7_plan_52 (by decide) (fun h52 => ?_) (fun h52 => ?_)
      · skip
        refine ev_bipush (pc := 67) (v := (-9)) dX7_plan_67 (by decide) ?_
        exact ev_ireturn (pc := 69) dX7_plan_69 rfl rfl (⟨⟨_, rfl, x0, hx0, hd0, Or.inl ⟨l, N, f1, by rw [if_neg (Int32.not_lt.mpr h45), if_pos h52]⟩⟩, hR, hF⟩)
      · skip
        refine ev_aload_n_0 (pc := 55) dX7_plan_55 ?_
        refine ev_getR (pc := 56) (r := 18) dX7_plan_56 fl_X7_55 (by decide) (by decide) (by decide) (by decide) ?_
        refine ev_getR (pc := 59) (r := 19) dX7_plan_59 fl_X7_158 (by decide) (by decide) (by decide) (by decide) ?_
        refine ev_iload_n_2 (pc := 62) dX7_plan_62 ?_
        refine ev_iaload' (pc := 63) (j := _) dX7_plan_63 (by decide) (by decide) (show vp_in _ 5 from (vk5 h45 (Int32.not_le.mp h52) f1.1)) rfl ?_
        refine ev_goto (pc := 64) (tgt := 69) dX7_plan_64 (by decide) ?_
        exact ev_ireturn (pc := 69) dX7_plan_69 rfl rfl (⟨⟨_, rfl, x0, hx0, hd0, Or.inl ⟨l, N, f1, by rw [if_neg (Int32.not_lt.mpr h45), if_neg h52, f3 _ (vkl h45 (Int32.not_le.mp h52) f1.1)]⟩⟩, hR, hF⟩)
    · skip
      refine ev_iload_n_3 (pc := 48) dX7_plan_48 ?_
      exact ev_ireturn (pc := 49) dX7_plan_49 rfl rfl (⟨⟨_, rfl, x0, hx0, hd0, Or.inl ⟨l, N, f1, by rw [if_pos (Int32.not_le.mp h45)]⟩⟩, hR, hF⟩)
  · skip
    refine ev_istore_n_3 (pc := 43) dX7_plan_43 (by decide) ?_
    refine ev_iload_n_2 (pc := 44) dX7_plan_44 ?_
    refine ev_if_ge (pc := 45) (tgt := 50) dX7_plan_45 (by decide) (fun h45 => ?_) (fun h45 => ?_)
    · skip
      refine ev_iload_n_2 (pc := 50) dX7_plan_50 ?_
      refine ev_iload_n_3 (pc := 51) dX7_plan_51 ?_
      refine ev_icmp_ge (pc := 52) (tgt := 67) dX7_plan_52 (by decide) (fun h52 => ?_) (fun h52 => by exact absurd (k9 h45) h52)
      refine ev_bipush (pc := 67) (v := (-9)) dX7_plan_67 (by decide) ?_
      exact ev_ireturn (pc := 69) dX7_plan_69 rfl rfl (⟨⟨_, rfl, x0, hx0, hd0, Or.inr ⟨f1, rfl⟩⟩, hR, hF⟩)
    · skip
      refine ev_iload_n_3 (pc := 48) dX7_plan_48 ?_
      exact ev_ireturn (pc := 49) dX7_plan_49 rfl rfl (⟨⟨_, rfl, x0, hx0, hd0, Or.inr ⟨f1, rfl⟩⟩, hR, hF⟩)
set_option maxRecDepth 100000 in
theorem m_X7_plan0 {S : Scr} {A : Abs} (s k : Int32) (hb : ¬ ((¬ s < 0 ∧ s ≤ allA A) ∧ ¬ k < -1 ∧ k < 5)) (σ : Sto) (h : RC A σ) : Mt S yX7_plan cX7_plan 4 (some .int) 5 [.ref 0, .int s, .int k] σ (Is (some (.int (-1))) σ) := by
  refine mt_of (ls := [.ref 0, .int s, .int k, .null]) (by decide) rfl (Nat.le_of_ble_eq_true rfl) (by simp [Value.category]) ?_
  refine ev_iload_n_1 (pc := 0) dX7_plan_0 ?_
  refine ev_if_lt (pc := 1) (tgt := 25) dX7_plan_1 (by decide) (fun h1 => ?_) (fun h1 => ?_)
  · skip
    refine ev_iconst (pc := 25) (v := (-1)) dX7_plan_25 (by decide) ?_
    exact ev_ireturn (pc := 26) dX7_plan_26 rfl rfl (⟨rfl, rfl⟩)
  · skip
    refine ev_iload_n_1 (pc := 4) dX7_plan_4 ?_
    refine ev_aload_n_0 (pc := 5) dX7_plan_5 ?_
    refine ev_getR (pc := 6) (r := 5) dX7_plan_6 fl_X7_19 (by decide) (by decide) (by decide) (by decide) ?_
    refine ev_callV1 (pc := 9) dX7_plan_9 ml_X7_151 (m_X0_everyone σ) (by decide) ⟨_, rfl, rfl⟩ rfl (by decide) rfl (Nat.le_of_ble_eq_true rfl) ?_
    rw [h.evry]
    refine ev_icmp_gt (pc := 12) (tgt := 25) dX7_plan_12 (by decide) (fun h12 => ?_) (fun h12 => ?_)
    · skip
      refine ev_iconst (pc := 25) (v := (-1)) dX7_plan_25 (by decide) ?_
      exact ev_ireturn (pc := 26) dX7_plan_26 rfl rfl (⟨rfl, rfl⟩)
    · skip
      refine ev_iload_n_2 (pc := 15) dX7_plan_15 ?_
      refine ev_iconst (pc := 16) (v := (-1)) dX7_plan_16 (by decide) ?_
      refine ev_icmp_lt (pc := 17) (tgt := 25) dX7_plan_17 (by decide) (fun h17 => ?_) (fun h17 => ?_)
      · skip
        refine ev_iconst (pc := 25) (v := (-1)) dX7_plan_25 (by decide) ?_
        exact ev_ireturn (pc := 26) dX7_plan_26 rfl rfl (⟨rfl, rfl⟩)
      · skip
        refine ev_iload_n_2 (pc := 20) dX7_plan_20 ?_
        refine ev_iconst (pc := 21) (v := 5) dX7_plan_21 (by decide) ?_
        refine ev_icmp_lt (pc := 22) (tgt := 27) dX7_plan_22 (by decide) (fun h22 => ?_) (fun h22 => ?_)
        · skip
          exact absurd ⟨⟨h1, Int32.not_lt.mp h12⟩, h17, h22⟩ hb
        · skip
          refine ev_iconst (pc := 25) (v := (-1)) dX7_plan_25 (by decide) ?_
          exact ev_ireturn (pc := 26) dX7_plan_26 rfl rfl (⟨rfl, rfl⟩)
theorem bcm_ne (τ : Sto) : ∀ k, k ≤ 6 → ∀ c, (c < 25 ∨ 37 ≤ c) → (itN bcmS k τ).1 c = τ.1 c := by
  intro k
  induction k with
  | zero => intro _ c _; rfl
  | succ k ih =>
    intro hk c hc
    rw [itN]
    show (wr (cp0 (itN bcmS k τ) (95 + k) (25 + 2 * k + 1) 4) (25 + 2 * k) 1 _).1 c = _
    rw [wr_ne (by omega), cp0_ne (by omega)]
    exact ih (by omega) c hc
theorem bcm_at (τ : Sto) : ∀ k, k ≤ 6 → ∀ b, b < k → (∀ p, p < 4 → (itN bcmS k τ).1 (25 + 2 * b + 1) p = τ.1 (95 + b) p) ∧ (itN bcmS k τ).1 (25 + 2 * b) 1 = τ.1 (95 + b) 4 := by
  intro k
  induction k with
  | zero => intro _ b hb; omega
  | succ k ih =>
    intro hk b hb
    have hr := bcm_ne τ k (by omega) (95 + k) (by omega)
    show (∀ p, p < 4 → (wr (cp0 (itN bcmS k τ) (95 + k) (25 + 2 * k + 1) 4) (25 + 2 * k) 1 ((itN bcmS k τ).1 (95 + k) 4)).1 (25 + 2 * b + 1) p = _) ∧ (wr (cp0 (itN bcmS k τ) (95 + k) (25 + 2 * k + 1) 4) (25 + 2 * k) 1 ((itN bcmS k τ).1 (95 + k) 4)).1 (25 + 2 * b) 1 = _
    by_cases e : b = k
    · subst e
      refine ⟨fun p hp => ?_, ?_⟩
      · rw [wr_ne (by omega)]
        unfold cp0
        simp only [hp, and_self, if_true]
        rw [hr]
      · rw [wr_at, hr]
    · obtain ⟨i1, i2⟩ := ih (by omega) b (by omega)
      refine ⟨fun p hp => ?_, ?_⟩
      · rw [wr_ne (by omega), cp0_ne (by omega)]; exact i1 p hp
      · rw [wr_ne (by omega), cp0_ne (by omega)]; exact i2
theorem beg_ne (n : Int32) (τ : Sto) : ∀ k, ∀ c, c ≠ 41 → c ≠ 42 → (itN (begS n) k τ).1 c = τ.1 c := by
  intro k
  induction k with
  | zero => intro c _ _; rfl
  | succ k ih =>
    intro c h1 h2
    show (wr (wr (itN (begS n) k τ) 41 k _) 42 k (-9)).1 c = _
    rw [wr_ne h2, wr_ne h1]; exact ih c h1 h2
theorem beg_at (n : Int32) (τ : Sto) : ∀ k, ∀ b, b < k → (itN (begS n) k τ).1 41 b = (if n ≤ nI b then 0 else τ.1 (95 + b) 5) ∧ (itN (begS n) k τ).1 42 b = -9 := by
  intro k
  induction k with
  | zero => intro b hb; omega
  | succ k ih =>
    intro b hb
    have hr := beg_ne n τ k (95 + k) (by omega) (by omega)
    show (wr (wr (itN (begS n) k τ) 41 k (if n ≤ nI k then 0 else (itN (begS n) k τ).1 (95 + k) 5)) 42 k (-9)).1 41 b = _ ∧ (wr (wr (itN (begS n) k τ) 41 k (if n ≤ nI k then 0 else (itN (begS n) k τ).1 (95 + k) 5)) 42 k (-9)).1 42 b = _
    by_cases e : b = k
    · subst e
      rw [wr_ne (by decide), wr_at, wr_at, hr]
      exact ⟨rfl, rfl⟩
    · rw [wr_ne (by decide), wr_nj e, wr_nj e, wr_ne (by decide)]
      exact ih b (by omega)
def bgW (nb : Nat) (σ : Sto) : Sto := wr (wr (wr (wr (wr (begW (nI nb) (bcmW nb σ)) 9 2 0) 12 0 0) 12 1 0) 13 2 0) 1 1 0
theorem bcm_2 (τ : Sto) : ∀ k, (itN bcmS k τ).2 = τ.2 := by
  intro k
  induction k with
  | zero => rfl
  | succ k ih => exact ih
theorem beg_2 (n : Int32) (τ : Sto) : ∀ k, (itN (begS n) k τ).2 = τ.2 := by
  intro k
  induction k with
  | zero => rfl
  | succ k ih => exact ih
set_option maxRecDepth 100000 in
theorem m_X7_beginAnew {S : Scr} (nb : Nat) (hnb : nb ≤ 6) (σ : Sto) (h3 : σ.1 1 3 = nI nb) : Mt S yX7_beginAnew cX7_beginAnew 2 none 2 [.ref 0] σ (Is none (bgW nb σ)) := by
  refine mt_of (ls := [.ref 0, .null]) (by decide) rfl (Nat.le_of_ble_eq_true rfl) (by simp [Value.category]) ?_
  have h3b : (bcmW nb σ).1 1 3 = nI nb := by unfold bcmW; rw [bcm_ne _ nb hnb 1 (by decide), wr_ne (by decide)]; exact h3
  refine ev_aload_n_0 (pc := 0) dX7_beginAnew_0 ?_
  refine ev_getR (pc := 1) (r := 5) dX7_beginAnew_1 fl_X7_19 (by decide) (by decide) (by decide) (by decide) ?_
  refine ev_aload_n_0 (pc := 4) dX7_beginAnew_4 ?_
  refine ev_getR (pc := 5) (r := 1) dX7_beginAnew_5 fl_X7_10 (by decide) (by decide) (by decide) (by decide) ?_
  refine ev_getR (pc := 8) (r := 3) dX7_beginAnew_8 fl_X7_241 (by decide) (by decide) (by decide) (by decide) ?_
  refine ev_aload_n_0 (pc := 11) dX7_beginAnew_11 ?_
  refine ev_getR (pc := 12) (r := 1) dX7_beginAnew_12 fl_X7_10 (by decide) (by decide) (by decide) (by decide) ?_
  refine ev_getI (pc := 15) dX7_beginAnew_15 fl_X7_244 (by decide) (by decide) (by decide) ?_
  rw [h3]
  refine ev_callV0 (pc := 18) dX7_beginAnew_18 ml_X7_246 (m_X0_become nb hnb σ) (by decide) ⟨_, rfl, rfl⟩ rfl (by decide) rfl (Nat.le_of_ble_eq_true rfl) ?_
  refine ev_aload_n_0 (pc := 21) dX7_beginAnew_21 ?_
  refine ev_getR (pc := 22) (r := 39) dX7_beginAnew_22 fl_X7_26 (by decide) (by decide) (by decide) (by decide) ?_
  refine ev_aload_n_0 (pc := 25) dX7_beginAnew_25 ?_
  refine ev_getR (pc := 26) (r := 1) dX7_beginAnew_26 fl_X7_10 (by decide) (by decide) (by decide) (by decide) ?_
  refine ev_getR (pc := 29) (r := 4) dX7_beginAnew_29 fl_X7_249 (by decide) (by decide) (by decide) (by decide) ?_
  refine ev_aload_n_0 (pc := 32) dX7_beginAnew_32 ?_
  refine ev_getR (pc := 33) (r := 1) dX7_beginAnew_33 fl_X7_10 (by decide) (by decide) (by decide) (by decide) ?_
  refine ev_getR (pc := 36) (r := 3) dX7_beginAnew_36 fl_X7_241 (by decide) (by decide) (by decide) (by decide) ?_
  refine ev_aload_n_0 (pc := 39) dX7_beginAnew_39 ?_
  refine ev_getR (pc := 40) (r := 1) dX7_beginAnew_40 fl_X7_10 (by decide) (by decide) (by decide) (by decide) ?_
  refine ev_getI (pc := 43) dX7_beginAnew_43 fl_X7_244 (by decide) (by decide) (by decide) ?_
  rw [h3b]
  refine ev_callV0 (pc := 46) dX7_beginAnew_46 ml_X7_250 (m_X3_begin (nI nb) _) (by decide) ⟨_, rfl, rfl⟩ rfl (by decide) rfl (Nat.le_of_ble_eq_true rfl) ?_
  refine ev_aload_n_0 (pc := 49) dX7_beginAnew_49 ?_
  refine ev_getR (pc := 50) (r := 9) dX7_beginAnew_50 fl_X7_33 (by decide) (by decide) (by decide) (by decide) ?_
  refine ev_iconst (pc := 53) (v := 0) dX7_beginAnew_53 (by decide) ?_
  refine ev_putI (pc := 54) dX7_beginAnew_54 fl_X7_132 (by decide) (by decide) (by decide) ?_
  refine ev_iconst (pc := 57) (v := 0) dX7_beginAnew_57 (by decide) ?_
  refine ev_istore_n_1 (pc := 58) dX7_beginAnew_58 (by decide) ?_
  refine ev_iload_n_1 (pc := 59) dX7_beginAnew_59 ?_
  refine ev_iconst (pc := 60) (v := 2) dX7_beginAnew_60 (by decide) ?_
  refine ev_icmp_ge (pc := 61) (tgt := 77) dX7_beginAnew_61 (by decide) (fun h61 => by exact absurd h61 (by decide)) (fun h61 => ?_)
  refine ev_aload_n_0 (pc := 64) dX7_beginAnew_64 ?_
  refine ev_getR (pc := 65) (r := 12) dX7_beginAnew_65 fl_X7_41 (by decide) (by decide) (by decide) (by decide) ?_
  refine ev_iload_n_1 (pc := 68) dX7_beginAnew_68 ?_
  refine ev_iconst (pc := 69) (v := 0) dX7_beginAnew_69 (by decide) ?_
  refine ev_bastore' (pc := 70) (j := 0) dX7_beginAnew_70 (by decide) (by decide) (show vp_in _ 2 from (vin_c (by decide))) (by decide) (by decide) ?_
  refine ev_iinc_1 (pc := 71) (v := 1) dX7_beginAnew_71 (by decide) (by decide) ?_
  refine ev_goto (pc := 74) (tgt := 59) dX7_beginAnew_74 (by decide) ?_
  refine ev_iload_n_1 (pc := 59) dX7_beginAnew_59 ?_
  refine ev_iconst (pc := 60) (v := 2) dX7_beginAnew_60 (by decide) ?_
  refine ev_icmp_ge (pc := 61) (tgt := 77) dX7_beginAnew_61 (by decide) (fun h61 => by exact absurd h61 (by decide)) (fun h61 => ?_)
  refine ev_aload_n_0 (pc := 64) dX7_beginAnew_64 ?_
  refine ev_getR (pc := 65) (r := 12) dX7_beginAnew_65 fl_X7_41 (by decide) (by decide) (by decide) (by decide) ?_
  refine ev_iload_n_1 (pc := 68) dX7_beginAnew_68 ?_
  refine ev_iconst (pc := 69) (v := 0) dX7_beginAnew_69 (by decide) ?_
  refine ev_bastore' (pc := 70) (j := 1) dX7_beginAnew_70 (by decide) (by decide) (show vp_in _ 2 from (vin_c (by decide))) (by decide) (by decide) ?_
  refine ev_iinc_1 (pc := 71) (v := 2) dX7_beginAnew_71 (by decide) (by decide) ?_
  refine ev_goto (pc := 74) (tgt := 59) dX7_beginAnew_74 (by decide) ?_
  refine ev_iload_n_1 (pc := 59) dX7_beginAnew_59 ?_
  refine ev_iconst (pc := 60) (v := 2) dX7_beginAnew_60 (by decide) ?_
  refine ev_icmp_ge (pc := 61) (tgt := 77) dX7_beginAnew_61 (by decide) (fun h61 => ?_) (fun h61 => by exact absurd h61 (by decide))
  refine ev_aload_n_0 (pc := 77) dX7_beginAnew_77 ?_
  refine ev_getR (pc := 78) (r := 13) dX7_beginAnew_78 fl_X7_48 (by decide) (by decide) (by decide) (by decide) ?_
  refine ev_iconst (pc := 81) (v := 0) dX7_beginAnew_81 (by decide) ?_
  refine ev_putI (pc := 82) dX7_beginAnew_82 fl_X7_184 (by decide) (by decide) (by decide) ?_
  refine ev_aload_n_0 (pc := 85) dX7_beginAnew_85 ?_
  refine ev_getR (pc := 86) (r := 1) dX7_beginAnew_86 fl_X7_10 (by decide) (by decide) (by decide) (by decide) ?_
  refine ev_callV1 (pc := 89) dX7_beginAnew_89 ml_X7_67 (m_X6_empty _) (by decide) ⟨_, rfl, rfl⟩ rfl (by decide) rfl (Nat.le_of_ble_eq_true rfl) ?_
  refine ev_pop (pc := 92) dX7_beginAnew_92 rfl ?_
  exact ev_return (pc := 93) dX7_beginAnew_93 rfl (⟨rfl, rfl⟩)
/-- the kitchen that a text tells -/
abbrev kitA (A : Abs) (nb : Nat) (L : Nat → Nat → Int32) (P : Nat → Int32) : Abs := (nb, L, fun b => L b 4, (P, fun b => if b < nb then L b 5 else 0, fun _ => -9), [], fun _ => none, [], (0, (aT A).2), aR A)
theorem numOk_v {f : Nat → Int32} {n s : Nat} {k : Nat} (hk : k < 6) (h : numOk f n s (limI k)) : ∃ v, v ≤ 5 ∧ (k = 4 → v ≤ 2) ∧ (k = 5 → v ≤ 1) ∧ dgt f n s = nI v := by
  obtain ⟨h1, h2, -⟩ := h
  generalize dgt f n s = x at h1 h2
  have h1' : 0 ≤ x.toInt := by rw [tI_lt, Int32.toInt_zero] at h1; omega
  refine ⟨x.toNatClampNeg, ?_, ?_, ?_, (nI_self h1').symm⟩
  all_goals
    have h3 := tn_of h1'
    rw [tI_lt] at h2
    have h4 : (limI k).toInt ≤ 5 ∧ (k = 4 → (limI k).toInt = 2) ∧ (k = 5 → (limI k).toInt = 1) := (by decide : ∀ k, k < 6 → (limI k).toInt ≤ 5 ∧ (k = 4 → (limI k).toInt = 2) ∧ (k = 5 → (limI k).toInt = 1)) k hk
    omega
def okL (nb : Nat) (L : Nat → Nat → Int32) : Prop := ∀ b, b < nb → ∀ k, k < 6 → ∃ v, v ≤ 5 ∧ (k = 4 → v ≤ 2) ∧ (k = 5 → v ≤ 1) ∧ L b k = nI v
def okPt (P : Nat → Int32) : Prop := ∀ p, p < 4 → ∃ v, v ≤ 5 ∧ P p = nI v
theorem prs_ok {f : Nat → Int32} {n : Nat} : ∀ k a nb pt L P it it' nb' L' P', prsR f n k a nb pt L P it (.inl (it', nb', L', P')) → nb ≤ 6 → okL nb L → okPt P → nb' ≤ 6 ∧ okL nb' L' ∧ okPt P' := by
  intro k
  induction k with
  | zero => intro a nb pt L P it it' nb' L' P' h; exact absurd h (fun z => z)
  | succ k ih =>
    intro a nb pt L P it it' nb' L' P' h h6 hL hP
    rw [prsR] at h
    rcases h with ⟨h1, h2⟩ | ⟨h1, h2, h3⟩ | ⟨h1, h2, h3⟩ | ⟨h1, h2, h3, h4⟩
    · cases h2; exact ⟨h6, hL, hP⟩
    · rcases h3 with ⟨h3, h4⟩ | ⟨z, h3, h4⟩
      · refine ih _ _ _ _ _ _ _ _ _ _ h4 (by omega) (fun b hb j hj => ?_) hP
        show ∃ v, v ≤ 5 ∧ (j = 4 → v ≤ 2) ∧ (j = 5 → v ≤ 1) ∧ (if b = nb then _ else L b j) = nI v
        by_cases e : b = nb
        · rw [if_pos e]; exact numOk_v hj (h3.1 j hj)
        · rw [if_neg e]; exact hL b (by omega) j hj
      · cases h4
    · rcases h3 with ⟨h3, h4⟩ | ⟨z, h3, h4⟩
      · refine ih _ _ _ _ _ _ _ _ _ _ h4 h6 hL (fun p hp => ?_)
        obtain ⟨v, a, -, -, b⟩ := numOk_v (show p < 6 by omega) (h3.1 p hp)
        exact ⟨v, a, b⟩
      · cases h4
    · cases h4
theorem RC.kit {A : Abs} {σ τ : Sto} (h : RC A σ) (g : Stx σ τ) {nb : Nat} {L : Nat → Nat → Int32} {P : Nat → Int32} (hnb : nb ≤ 6) (hL : okL nb L) (hP : okPt P) (h3 : τ.1 1 3 = nI nb) (hr : ∀ b, b < nb → ∀ k, k < 6 → τ.1 (95 + b) k = L b k) (hp : ∀ k, k < 4 → τ.1 4 k = P k) : RC (kitA A nb L P) (bgW nb τ) ∧ FrC σ (bgW nb τ) := by
  have ne : ∀ c, (c < 25 ∨ 37 ≤ c) → c ≠ 1 → c ≠ 5 → c ≠ 9 → c ≠ 12 → c ≠ 13 → c ≠ 40 → c ≠ 41 → c ≠ 42 → (bgW nb τ).1 c = τ.1 c := fun c a0 a1 a5 a2 a3 a4 a6 a7 a8 => by
    unfold bgW begW bcmW
    rw [wr_ne a1, wr_ne a4, wr_ne a3, wr_ne a3, wr_ne a2, beg_ne _ _ 6 c a7 a8, cp0_ne a6, bcm_ne _ nb hnb c a0, wr_ne a5]
  have lk : ∀ b, b < nb → (∀ p, p < 4 → (bgW nb τ).1 (25 + 2 * b + 1) p = L b p) ∧ (bgW nb τ).1 (25 + 2 * b) 1 = L b 4 := fun b hb => by
    unfold bgW begW bcmW
    obtain ⟨q1, q2⟩ := bcm_at (wr τ 5 1 (nI nb)) nb hnb b hb
    refine ⟨fun p hp => ?_, ?_⟩
    · rw [wr_ne (by omega), wr_ne (by omega), wr_ne (by omega), wr_ne (by omega), wr_ne (by omega), beg_ne _ _ 6 _ (by omega) (by omega), cp0_ne (by omega), q1 p hp, wr_ne (by omega)]; exact hr b hb p (by omega)
    · rw [wr_ne (by omega), wr_ne (by omega), wr_ne (by omega), wr_ne (by omega), wr_ne (by omega), beg_ne _ _ 6 _ (by omega) (by omega), cp0_ne (by omega), q2, wr_ne (by omega)]; exact hr b hb 4 (by decide)
  have s2 : (bgW nb τ).2 = τ.2 := by
    show (itN (begS (nI nb)) 6 _).2 = _
    rw [beg_2]
    show (itN bcmS nb _).2 = _
    rw [bcm_2]; rfl
  refine ⟨⟨⟨hnb, fun b hb => ⟨fun p hp => ?_, ?_⟩, ⟨hP, fun b hb => ?_⟩, fun s hs => absurd hs List.not_mem_nil, (fun i s hs => nomatch hs), fun e he => absurd he List.not_mem_nil, Nat.zero_le _, Nat.zero_le _, Nat.zero_le _⟩, ⟨?_, lk⟩, ⟨fun p hp4 => ?_, fun b hb => ?_, fun b hb => ?_⟩, ?_, fun i hi => ⟨(fun s hs => nomatch hs), fun _ => ?_⟩, ⟨?_, fun i e he => ?_⟩, ⟨?_, fun i hi => absurd hi (Nat.not_lt_zero i)⟩, ?_, ?_, ?_⟩, ?_⟩
  · obtain ⟨v, a, -, -, b'⟩ := hL b hb p (by omega)
    exact ⟨v, a, b'⟩
  · obtain ⟨v, -, a, -, b'⟩ := hL b hb 4 (by decide)
    exact ⟨v, a rfl, b'⟩
  · show (if b < nb then L b 5 else 0) = 0 ∨ (if b < nb then L b 5 else 0) = 1
    by_cases q : b < nb
    · rw [if_pos q]
      obtain ⟨v, -, -, a, b'⟩ := hL b q 5 (by decide)
      have := a rfl
      rw [b']
      rcases (show v = 0 ∨ v = 1 by omega) with rfl | rfl
      · exact Or.inl rfl
      · exact Or.inr rfl
    · rw [if_neg q]; exact Or.inl rfl
  · unfold bgW begW bcmW
    rw [wr_ne (by decide), wr_ne (by decide), wr_ne (by decide), wr_ne (by decide), wr_ne (by decide), beg_ne _ _ 6 _ (by decide) (by decide), cp0_ne (by decide), bcm_ne _ nb hnb 5 (by decide), wr_at]
  · show (bgW nb τ).1 40 p = P p
    unfold bgW begW
    rw [wr_ne (by decide), wr_ne (by decide), wr_ne (by decide), wr_ne (by decide), wr_ne (by decide), beg_ne _ _ 6 _ (by decide) (by decide)]
    unfold cp0
    simp only [hp4, and_self, if_true]
    unfold bcmW
    rw [bcm_ne _ nb hnb 4 (by decide), wr_ne (by decide)]
    exact hp p hp4
  · show (bgW nb τ).1 41 b = if b < nb then L b 5 else 0
    unfold bgW begW
    rw [wr_ne (by decide), wr_ne (by decide), wr_ne (by decide), wr_ne (by decide), wr_ne (by decide), (beg_at _ _ 6 b hb).1]
    by_cases q : b < nb
    · rw [if_neg (nI_ge q (by omega)), if_pos q, cp0_ne (by omega)]
      unfold bcmW
      rw [bcm_ne _ nb hnb (95 + b) (by omega), wr_ne (by omega)]
      exact hr b q 5 (by decide)
    · rw [if_pos (nI_le (by omega) (by omega)), if_neg q]
  · show (bgW nb τ).1 42 b = -9
    unfold bgW begW
    have hb' : b < nb := hb
    rw [wr_ne (by decide), wr_ne (by decide), wr_ne (by decide), wr_ne (by decide), wr_ne (by decide), (beg_at _ _ 6 b (by omega)).2]
  · obtain ⟨nx, a, b, -, -⟩ := h.2.2.2.1
    refine ⟨nx, a, ?_, ?_, fun i s hs => by have hs2 : ([] : List Scn)[i]? = some s := hs; simp at hs2⟩
    · unfold bgW begW bcmW
      rw [wr_ne (by decide), wr_ne (by decide), wr_ne (by decide), wr_ne (by decide), wr_nj (by decide), beg_ne _ _ 6 _ (by decide) (by decide), cp0_ne (by decide), bcm_ne _ nb hnb 9 (by decide), wr_ne (by decide), g.2 9 1 (by decide) (by decide) (by decide)]; exact b
    · unfold bgW
      rw [wr_ne (by decide), wr_ne (by decide), wr_ne (by decide), wr_ne (by decide), wr_at]; rfl
  · unfold bgW
    rw [wr_ne (by decide), wr_ne (by decide)]
    rcases (show i = 0 ∨ i = 1 by omega) with rfl | rfl
    · rw [wr_nj (by decide), wr_at]
    · rw [wr_at]
  · unfold bgW; rw [wr_ne (by decide), wr_at]; rfl
  · have he2 : ([] : List ((Nat → Int32) × Int32))[i]? = some e := he; simp at he2
  · unfold bgW; rw [wr_at]; rfl
  · rw [s2, g.1]; exact h.2.2.2.2.2.2.2.1
  · refine h.2.2.2.2.2.2.2.2.1.mv ?_ (funext fun j => ?_) (funext fun j => ?_)
    · rw [ne 18 (by decide) (by decide) (by decide) (by decide) (by decide) (by decide) (by decide) (by decide) (by decide)]; exact g.2 18 5 (by decide) (by decide) (by decide)
    · rw [ne 20 (by decide) (by decide) (by decide) (by decide) (by decide) (by decide) (by decide) (by decide) (by decide)]; exact g.2 20 j (by decide) (by decide) (Or.inl (by decide))
    · rw [ne 24 (by decide) (by decide) (by decide) (by decide) (by decide) (by decide) (by decide) (by decide) (by decide)]; exact g.2 24 j (by decide) (by decide) (Or.inl (by decide))
  · rw [ne 37 (by decide) (by decide) (by decide) (by decide) (by decide) (by decide) (by decide) (by decide) (by decide)]; rw [g.2 37 1 (by decide) (by decide) (by decide)]; exact h.2.2.2.2.2.2.2.2.2
  · refine FrC.of (fun c hc => funext fun j => ?_) (s2.trans g.1)
    rw [ne c (by omega) (by omega) (by omega) (by omega) (by omega) (by omega) (by omega) (by omega) (by omega)]
    exact g.2 c j (by omega) (by omega) (by omega)
theorem RC.stx {A : Abs} {σ τ : Sto} (h : RC A σ) (g : Stx σ τ) : RC A τ ∧ FrC σ τ := ⟨h.mv2 (by rw [g.1]) (fun c j h1 h2 h3 h4 h5 h6 => g.2 c j (by omega) (by omega) (by omega)), FrC.of (fun c hc => funext fun j => g.2 c j (by omega) (by omega) (by omega)) g.1⟩
/-- what kitchen() answers, and the kitchen behind it -/
def kitR (A : Abs) (v : Int32) (A' : Abs) : Prop := ∃ k o, prsR (aT A).2 (aT A).1 k 0 0 false (fun _ _ => 0) (fun _ => 0) 0 o ∧ ((∃ it nb L P, o = .inl (it, nb, L, P) ∧ v = nI it ∧ A' = kitA A nb L P) ∨ ∃ z, o = .inr z ∧ v = -10 - nI z ∧ A' = A)
theorem kitR_uniq {A A1 A2 : Abs} {v v' : Int32} (h : kitR A v A1) (h' : kitR A v' A2) : v = v' ∧ A1 = A2 := by
  obtain ⟨k, o, p, h⟩ := h
  obtain ⟨k', o', p', h'⟩ := h'
  obtain rfl := prs_uniq _ _ _ _ _ _ _ _ _ _ p p'
  rcases h with ⟨it, nb, L, P, rfl, h1, h2⟩ | ⟨z, rfl, h1, h2⟩ <;> rcases h' with ⟨it', nb', L', P', e, h3, h4⟩ | ⟨z', e, h3, h4⟩
  · cases e; exact ⟨h1.trans h3.symm, h2.trans h4.symm⟩
  · cases e
  · cases e
  · cases e; exact ⟨h1.trans h3.symm, h2.trans h4.symm⟩
theorem skF_congr {f g : Nat → Int32} {n : Nat} (h : ∀ i, i < n → f i = g i) : ∀ k a, skF f n k a = skF g n k a := by
  intro k
  induction k with
  | zero => intro a; rfl
  | succ k ih =>
    intro a
    rw [skF, skF, ih]
    by_cases q : a < n
    · rw [h a q]
    · rw [if_neg (fun z => q z.1), if_neg (fun z => q z.1)]
theorem skp_congr {f g : Nat → Int32} {n : Nat} (h : ∀ i, i < n → f i = g i) (a : Nat) : skp f n a = skp g n a := skF_congr h _ _
theorem dgt_congr {f g : Nat → Int32} {n : Nat} (h : ∀ i, i < n → f i = g i) (s : Nat) : dgt f n s = dgt g n s := by
  unfold dgt isd
  by_cases q : s < n
  · rw [h s q]
  · rw [if_neg (fun z => q z.1), if_neg (fun z => q z.1)]
theorem psn_congr {f g : Nat → Int32} {n : Nat} (h : ∀ i, i < n → f i = g i) (a : Nat) : ∀ k, psn f n a k = psn g n a k := by
  intro k
  induction k with
  | zero => exact skp_congr h a
  | succ k ih => rw [psn, psn, ih, skp_congr h]
theorem atC_congr {f g : Nat → Int32} {n : Nat} (h : ∀ i, i < n → f i = g i) (s : Nat) (c : Int32) : atC f n s c ↔ atC g n s c := ⟨fun z => ⟨z.1, (h s z.1) ▸ z.2⟩, fun z => ⟨z.1, (h s z.1).symm ▸ z.2⟩⟩
theorem numOk_congr {f g : Nat → Int32} {n : Nat} (h : ∀ i, i < n → f i = g i) (s : Nat) (l : Int32) : numOk f n s l ↔ numOk g n s l := by unfold numOk; rw [dgt_congr h, dgt_congr h]
theorem rowOk_congr {f g : Nat → Int32} {n : Nat} (h : ∀ i, i < n → f i = g i) (a m : Nat) : rowOk f n a m ↔ rowOk g n a m := by
  have e := psn_congr h a
  constructor
  · intro z; exact ⟨fun k hk => by rw [← e k]; exact (numOk_congr h _ _).mp (z.1 k hk), by rw [← e m]; exact (atC_congr h _ _).mp z.2⟩
  · intro z; exact ⟨fun k hk => by rw [e k]; exact (numOk_congr h _ _).mpr (z.1 k hk), by rw [e m]; exact (atC_congr h _ _).mpr z.2⟩
theorem rowBad_congr {f g : Nat → Int32} {n : Nat} (h : ∀ i, i < n → f i = g i) (a m z : Nat) (q : rowBad f n a m z) : rowBad g n a m z := by
  have e := psn_congr h a
  obtain ⟨k, k1, k2, k3, k4, k5⟩ := q
  exact ⟨k, k1, by rw [← e k]; exact k2, fun i hi => by rw [← e i]; exact (numOk_congr h _ _).mp (k3 i hi), fun hk y => k4 hk (by rw [e k]; exact (numOk_congr h _ _).mpr y), fun hk y => k5 hk (by rw [e m]; exact (atC_congr h _ _).mpr y)⟩
theorem prs_congr {f g : Nat → Int32} {n : Nat} (h : ∀ i, i < n → f i = g i) : ∀ k a nb pt L P it o, prsR f n k a nb pt L P it o → prsR g n k a nb pt L P it o := by
  intro k
  induction k with
  | zero => intro a nb pt L P it o z; exact z
  | succ k ih =>
    intro a nb pt L P it o z
    rw [prsR] at z ⊢
    have es := skp_congr h a
    have ev : ∀ x, rowV f n x = rowV g n x := fun x => funext fun j => by show dgt f n (psn f n x j) = dgt g n (psn g n x j); rw [psn_congr h, dgt_congr h]
    rcases z with ⟨h1, h2⟩ | ⟨h1, h2, h3⟩ | ⟨h1, h2, h3⟩ | ⟨h1, h2, h3, h4⟩
    · exact Or.inl ⟨by rw [← es]; exact h1, h2⟩
    · refine Or.inr (Or.inl ⟨by rw [← es]; exact h1, by rw [← es, ← h _ h1]; exact h2, ?_⟩)
      rw [← es]
      rcases h3 with ⟨h3, h4⟩ | ⟨y, h3, h4⟩
      · exact Or.inl ⟨(rowOk_congr h _ _).mp h3, by have := ih _ _ _ _ _ _ _ h4; rw [psn_congr h, ev] at this; exact this⟩
      · exact Or.inr ⟨y, rowBad_congr h _ _ _ h3, h4⟩
    · refine Or.inr (Or.inr (Or.inl ⟨by rw [← es]; exact h1, by rw [← es, ← h _ h1]; exact h2, ?_⟩))
      rw [← es]
      rcases h3 with ⟨h3, h4⟩ | ⟨y, h3, h4⟩
      · exact Or.inl ⟨(rowOk_congr h _ _).mp h3, by have := ih _ _ _ _ _ _ _ h4; rw [psn_congr h, ev] at this; exact this⟩
      · exact Or.inr ⟨y, rowBad_congr h _ _ _ h3, h4⟩
    · exact Or.inr (Or.inr (Or.inr ⟨by rw [← es]; exact h1, by rw [← es, ← h _ h1]; exact h2, by rw [← es, ← h _ h1]; exact h3, by rw [← es]; exact h4⟩))
theorem neg10 : ∀ {z : Nat}, z ≤ 121 → (-10 - nI z) < 0 := fun {z} h => (by decide +kernel : ∀ z, z ≤ 121 → (-10 - nI z) < 0) z h
theorem m_X7_kitchen {S : Scr} {A : Abs} (σ : Sto) (h : RC A σ) : Mt S yX7_kitchen cX7_kitchen 2 (some .int) 5 [.ref 0] σ (fun r τ => ∃ v A', r = some (.int v) ∧ kitR A v A' ∧ RC A' τ ∧ FrC σ τ) := by
  refine mt_of (ls := [.ref 0, .null]) (by decide) rfl (Nat.le_of_ble_eq_true rfl) (by simp [Value.category]) ?_
  obtain ⟨t1, t2⟩ := h.2.2.2.2.2.2.1
  refine ev_aload_n_0 (pc := 0) dX7_kitchen_0 ?_
  refine ev_getR (pc := 1) (r := 1) dX7_kitchen_1 fl_X7_10 (by decide) (by decide) (by decide) (by decide) ?_
  refine ev_callV (pc := 4) dX7_kitchen_4 ml_X7_71 (m_X6_read _ h.1.2.2.2.2.2.2.2.2 σ t1) (by decide) ⟨_, rfl, rfl⟩ rfl (by decide) rfl (Nat.le_of_ble_eq_true rfl) ?_
  intro rv τ g
  obtain ⟨gs, o, hp, g⟩ := g
  have hp2 := prs_congr t2 _ _ _ _ _ _ _ _ hp
  rcases g with ⟨it, nb, L, P, rfl, rfl, hit, hnb, g3, g4, g5⟩ | ⟨z, rfl, hz, rfl⟩
  · skip
    have hok := prs_ok _ _ _ _ _ _ _ _ _ _ _ hp2 (by decide) (fun b hb => absurd hb (Nat.not_lt_zero b)) (fun p _ => ⟨0, by decide, rfl⟩)
    have hk := h.kit gs hnb hok.2.1 hok.2.2 g3 g4 g5
    refine ev_istore_n_1 (pc := 7) dX7_kitchen_7 (by decide) ?_
    refine ev_iload_n_1 (pc := 8) dX7_kitchen_8 ?_
    refine ev_if_lt (pc := 9) (tgt := 16) dX7_kitchen_9 (by decide) (fun h9 => by exact absurd h9 (nI_pos (by omega))) (fun h9 => ?_)
    refine ev_aload_n_0 (pc := 12) dX7_kitchen_12 ?_
    refine ev_callV0 (pc := 13) dX7_kitchen_13 ml_X7_74 (m_X7_beginAnew nb hnb τ g3) (by decide) ⟨_, rfl, rfl⟩ rfl (by decide) rfl (Nat.le_of_ble_eq_true rfl) ?_
    refine ev_iload_n_1 (pc := 16) dX7_kitchen_16 ?_
    exact ev_ireturn (pc := 17) dX7_kitchen_17 rfl rfl (⟨_, kitA A nb L P, rfl, ⟨121, _, hp2, Or.inl ⟨it, nb, L, P, rfl, rfl, rfl⟩⟩, hk.1, hk.2⟩)
  · skip
    refine ev_istore_n_1 (pc := 7) dX7_kitchen_7 (by decide) ?_
    refine ev_iload_n_1 (pc := 8) dX7_kitchen_8 ?_
    refine ev_if_lt (pc := 9) (tgt := 16) dX7_kitchen_9 (by decide) (fun h9 => ?_) (fun h9 => by exact absurd (neg10 hz) h9)
    refine ev_iload_n_1 (pc := 16) dX7_kitchen_16 ?_
    exact ev_ireturn (pc := 17) dX7_kitchen_17 rfl rfl (⟨_, A, rfl, ⟨121, _, hp2, Or.inr ⟨z, rfl, rfl, rfl⟩⟩, (h.stx gs).1, (h.stx gs).2⟩)
