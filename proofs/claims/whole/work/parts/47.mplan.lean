/-! ===== the reference: plan ===== -/
set_option maxRecDepth 100000 in
theorem b_X8_fives {S : Scr} (n : Nat) (hn : n < 100) (i : Nat) (hi : i < n) (σ : Sto) {Q : Option Value → Sto → Prop} (K : Ev S RX8 cX8_fives 3 (some .int) 0 4 [.int (nI n), .int (nI (5 ^ (i + 1))), .int (nI (i + 1))] [] σ (Q)) : Ev S RX8 cX8_fives 3 (some .int) 0 4 [.int (nI n), .int (nI (5 ^ i)), .int (nI i)] [] σ (Q) := by
  refine ev_iload_n_2 (pc := 4) dX8_fives_4 ?_
  refine ev_iload_n_0 (pc := 5) dX8_fives_5 ?_
  refine ev_icmp_ge (pc := 6) (tgt := 19) dX8_fives_6 (by decide) (fun h6 => by exact absurd h6 (nI_ge hi (by omega))) (fun h6 => ?_)
  refine ev_iload_n_1 (pc := 9) dX8_fives_9 ?_
  refine ev_iconst (pc := 10) (v := 5) dX8_fives_10 (by decide) ?_
  refine ev_imulc (pc := 11) (v := nI ((5 ^ i) * 5)) dX8_fives_11 (nI_mul (5 ^ i) 5) ?_
  refine ev_istore_n_1 (pc := 12) dX8_fives_12 (by decide) ?_
  refine ev_iinc_2 (pc := 13) (v := nI (i + 1)) dX8_fives_13 (nI_inc i) (by decide) ?_
  refine ev_goto (pc := 16) (tgt := 4) dX8_fives_16 (by decide) ?_
  exact K
theorem m_X8_fives {S : Scr} (n : Nat) (hn : n < 100) (σ : Sto) : Mt S yX8_fives cX8_fives 3 (some .int) 0 [.int (nI n)] σ (Is (some (.int (nI (5 ^ n)))) σ) := by
  refine mt_of (ls := [.int (nI n), .null, .null]) (by decide) rfl (Nat.le_of_ble_eq_true rfl) (by simp [Value.category]) ?_
  refine ev_iconst (pc := 0) (v := 1) dX8_fives_0 (by decide) ?_
  refine ev_istore_n_1 (pc := 1) dX8_fives_1 (by decide) ?_
  refine ev_iconst (pc := 2) (v := 0) dX8_fives_2 (by decide) ?_
  refine ev_istore_n_2 (pc := 3) dX8_fives_3 (by decide) ?_
  refine for_up n (fun i (_ : Unit) => Ev S RX8 cX8_fives 3 (some .int) 0 4 [.int (nI n), .int (nI (5 ^ i)), .int (nI i)] [] σ (Is (some (.int (nI (5 ^ n)))) σ)) (fun _ u => u) (fun i _ hi K => b_X8_fives n hn i hi σ K) () ?_
  refine ev_iload_n_2 (pc := 4) dX8_fives_4 ?_
  refine ev_iload_n_0 (pc := 5) dX8_fives_5 ?_
  refine ev_icmp_ge (pc := 6) (tgt := 19) dX8_fives_6 (by decide) (fun h6 => ?_) (fun h6 => by exact absurd (Int32.le_refl _) h6)
  refine ev_iload_n_1 (pc := 19) dX8_fives_19 ?_
  exact ev_ireturn (pc := 20) dX8_fives_20 rfl rfl (⟨rfl, rfl⟩)
theorem pow5 : ∀ n, n ≤ 5 → 5 ^ n ≤ 3125 ∧ 0 < 5 ^ n := by decide +kernel
/-- what calmsBy says -/
def cbR (A : Abs) (x0 s l N : Nat) (σ : Sto) (r : Option Value) (τ : Sto) : Prop := (∃ v, r = some (.int v) ∧ ((v = 1 ∧ okR x0 l N ∧ plA A (nI s) (runW x0 l N)) ∨ (v = 0 ∧ ¬ (okR x0 l N ∧ plA A (nI s) (runW x0 l N))))) ∧ Mls σ τ
theorem nwR.ds {A : Abs} {τ : Sto} {x e : Nat} (h : nwR A τ (scX A x)) (hx : x < 1296) (he : e < 5) (hc : cbX x e) : nwR A (dsK τ e 4) (scX A (stp x e)) := by
  refine ⟨h.1, h.2.1.mv (by rw [dsK_ne (by decide)]) (dsK_ne (by decide)) (dsK_ne (by decide)), ?_, ⟨fun p _ => dg_sm (stp_lt hx he) p, h.2.2.2.2⟩⟩
  exact (h.2.2.1.ds (d := e)).cg (fun p hp => stp_yes hx he hc hp) rfl
set_option maxRecDepth 100000 in
theorem b0_X8_calmsBy {S : Scr} (s l N : Nat) (hl : l ≤ 5) (i : Nat) (hi : i < l) (y : Value) (τ : Sto) {Q : Option Value → Sto → Prop} (hQ : Q (some (.int 0)) τ) : Ev S RX8 cX8_calmsBy 7 (some .boolean) 5 10 [.ref 117, .int (nI s), .int (nI N), .int (nI l), .int 0, .int (nI i), y] [] τ (Q) := by
  refine ev_iload_5 (pc := 10) dX8_calmsBy_10 ?_
  refine ev_iload_n_3 (pc := 12) dX8_calmsBy_12 ?_
  refine ev_icmp_ge (pc := 13) (tgt := 61) dX8_calmsBy_13 (by decide) (fun h13 => by exact absurd h13 (nI_ge hi (by omega))) (fun h13 => ?_)
  refine ev_iload_4 (pc := 16) dX8_calmsBy_16 ?_
  refine ev_if_eq (pc := 18) (tgt := 61) dX8_calmsBy_18 (by decide) (fun h18 => ?_) (fun h18 => by exact absurd h18 (by decide))
  refine ev_iload_4 (pc := 61) dX8_calmsBy_61 ?_
  refine ev_if_eq (pc := 63) (tgt := 81) dX8_calmsBy_63 (by decide) (fun h63 => ?_) (fun h63 => by exact absurd h63 (by decide))
  refine ev_iconst (pc := 81) (v := 0) dX8_calmsBy_81 (by decide) ?_
  exact ev_ireturn (pc := 82) dX8_calmsBy_82 rfl rfl (hQ)
set_option maxRecDepth 100000 in
theorem end0_X8_calmsBy {S : Scr} (s l N : Nat) (y : Value) (τ : Sto) {Q : Option Value → Sto → Prop} (hQ : Q (some (.int 0)) τ) : Ev S RX8 cX8_calmsBy 7 (some .boolean) 5 10 [.ref 117, .int (nI s), .int (nI N), .int (nI l), .int 0, .int (nI l), y] [] τ (Q) := by
  refine ev_iload_5 (pc := 10) dX8_calmsBy_10 ?_
  refine ev_iload_n_3 (pc := 12) dX8_calmsBy_12 ?_
  refine ev_icmp_ge (pc := 13) (tgt := 61) dX8_calmsBy_13 (by decide) (fun h13 => ?_) (fun h13 => by exact absurd (Int32.le_refl _) h13)
  refine ev_iload_4 (pc := 61) dX8_calmsBy_61 ?_
  refine ev_if_eq (pc := 63) (tgt := 81) dX8_calmsBy_63 (by decide) (fun h63 => ?_) (fun h63 => by exact absurd h63 (by decide))
  refine ev_iconst (pc := 81) (v := 0) dX8_calmsBy_81 (by decide) ?_
  exact ev_ireturn (pc := 82) dX8_calmsBy_82 rfl rfl (hQ)
set_option maxRecDepth 100000 in
theorem b1_X8_calmsBy {S : Scr} {A : Abs} (x0 : Nat) (hx : x0 < 1296) (s : Nat) (hs : s < 2 ^ aN A) (l : Nat) (hl : l ≤ 5) (N : Nat) (hN : N < 5 ^ l) (i : Nat) (hi : i < l) (y : Value) (σ τ : Sto) {Q : Option Value → Sto → Prop} (h : nwR A τ (scX A (runW x0 i (N / 5 ^ (l - i))))) (hm : Mls σ τ) (K1 : cbX (runW x0 i (N / 5 ^ (l - i))) (N / 5 ^ (l - (i + 1)) % 5) → ∀ y τ', nwR A τ' (scX A (runW x0 (i + 1) (N / 5 ^ (l - (i + 1))))) → Mls σ τ' → Ev S RX8 cX8_calmsBy 7 (some .boolean) 5 10 [.ref 117, .int (nI s), .int (nI N), .int (nI l), .int 1, .int (nI (i + 1)), y] [] τ' (Q)) (K0 : ¬ cbX (runW x0 i (N / 5 ^ (l - i))) (N / 5 ^ (l - (i + 1)) % 5) → ∀ y, Ev S RX8 cX8_calmsBy 7 (some .boolean) 5 10 [.ref 117, .int (nI s), .int (nI N), .int (nI l), .int 0, .int (nI (i + 1)), y] [] τ (Q)) : Ev S RX8 cX8_calmsBy 7 (some .boolean) 5 10 [.ref 117, .int (nI s), .int (nI N), .int (nI l), .int 1, .int (nI i), y] [] τ (Q) := by
  have q5 := pow5 l hl
  have q6 := pow5 (l - 1 - i) (by omega)
  have q7 : N / 5 ^ (l - 1 - i) ≤ N := Nat.div_le_self _ _
  have he : N / 5 ^ (l - (i + 1)) % 5 < 5 := Nat.mod_lt _ (by decide)
  have hxi : runW x0 i (N / 5 ^ (l - i)) < 1296 := runW_lt hx _ _
  have hst : stp (runW x0 i (N / 5 ^ (l - i))) (N / 5 ^ (l - (i + 1)) % 5) = runW x0 (i + 1) (N / 5 ^ (l - (i + 1))) := by
    show _ = stp (runW x0 i (N / 5 ^ (l - (i + 1)) / 5)) (N / 5 ^ (l - (i + 1)) % 5)
    rw [pre_s hi]
  refine ev_iload_5 (pc := 10) dX8_calmsBy_10 ?_
  refine ev_iload_n_3 (pc := 12) dX8_calmsBy_12 ?_
  refine ev_icmp_ge (pc := 13) (tgt := 61) dX8_calmsBy_13 (by decide) (fun h13 => by exact absurd h13 (nI_ge hi (by omega))) (fun h13 => ?_)
  refine ev_iload_4 (pc := 16) dX8_calmsBy_16 ?_
  refine ev_if_eq (pc := 18) (tgt := 61) dX8_calmsBy_18 (by decide) (fun h18 => by exact absurd h18 (by decide)) (fun h18 => ?_)
  refine ev_iload_n_2 (pc := 21) dX8_calmsBy_21 ?_
  refine ev_iload_n_3 (pc := 22) dX8_calmsBy_22 ?_
  refine ev_iconst (pc := 23) (v := 1) dX8_calmsBy_23 (by decide) ?_
  refine ev_isubc (pc := 24) (v := nI (l - 1)) dX8_calmsBy_24 (nI_sub (a := l) (b := 1) (by omega) (by omega)) ?_
  refine ev_iload_5 (pc := 25) dX8_calmsBy_25 ?_
  refine ev_isubc (pc := 27) (v := nI (l - 1 - i)) dX8_calmsBy_27 (nI_sub (a := l - 1) (b := i) (by omega) (by omega)) ?_
  refine ev_callS1 (pc := 28) dX8_calmsBy_28 ml_X8_177 (m_X8_fives (l - 1 - i) (by omega) τ) rfl (by decide) rfl (Nat.le_of_ble_eq_true rfl) ?_
  refine ev_idiv (pc := 31) dX8_calmsBy_31 (fun z => absurd ((nI_z (by omega)).mp z) (by omega)) ?_
  refine ev_iconst (pc := 32) (v := 5) dX8_calmsBy_32 (by decide) ?_
  refine ev_irem (pc := 33) dX8_calmsBy_33 (by decide) ?_
  rw [pk_div (a := N) (d := 5 ^ (l - 1 - i)) (by omega) (by omega) (by omega)]
  rw [show nI (N / 5 ^ (l - 1 - i)) - nI (N / 5 ^ (l - 1 - i)) / 5 * 5 = nI (N / 5 ^ (l - 1 - i) % 5) from pk_rem (d := 5) (by omega) (by decide) (by decide)]
  rw [show l - 1 - i = l - (i + 1) by omega]
  refine ev_istore_6 (pc := 34) dX8_calmsBy_34 (by decide) ?_
  refine ev_aload_n_0 (pc := 36) dX8_calmsBy_36 ?_
  refine ev_iload_6 (pc := 37) dX8_calmsBy_37 ?_
  refine ev_callV1 (pc := 39) dX8_calmsBy_39 ml_X8_180 (m_X8_canBe (N / 5 ^ (l - (i + 1)) % 5) he τ h) (by decide) ⟨_, rfl, rfl⟩ rfl (by decide) rfl (Nat.le_of_ble_eq_true rfl) ?_
  refine ev_istore_4 (pc := 42) dX8_calmsBy_42 (by decide) ?_
  refine ev_iload_4 (pc := 44) dX8_calmsBy_44 ?_
  refine ev_if_eq (pc := 46) (tgt := 55) dX8_calmsBy_46 (by decide) (fun h46 => ?_) (fun h46 => ?_)
  · skip
    refine ev_iinc_5 (pc := 55) (v := nI (i + 1)) dX8_calmsBy_55 (nI_inc i) (by decide) ?_
    refine ev_goto (pc := 58) (tgt := 10) dX8_calmsBy_58 (by decide) ?_
    exact ev_eq (by rw [h46]) rfl rfl (K0 (bI0.mp h46) _)
  · skip
    refine ev_aload_n_0 (pc := 49) dX8_calmsBy_49 ?_
    refine ev_iload_6 (pc := 50) dX8_calmsBy_50 ?_
    refine ev_callV0 (pc := 52) dX8_calmsBy_52 ml_X8_170 (m_X8_does (N / 5 ^ (l - (i + 1)) % 5) (by omega) τ) (by decide) ⟨_, rfl, rfl⟩ rfl (by decide) rfl (Nat.le_of_ble_eq_true rfl) ?_
    refine ev_iinc_5 (pc := 55) (v := nI (i + 1)) dX8_calmsBy_55 (nI_inc i) (by decide) ?_
    refine ev_goto (pc := 58) (tgt := 10) dX8_calmsBy_58 (by decide) ?_
    have hc : cbX (runW x0 i (N / 5 ^ (l - i))) (N / 5 ^ (l - (i + 1)) % 5) := Decidable.not_not.mp (fun z => h46 (bI0.mpr z))
    have hd := h.ds hxi he hc
    rw [hst] at hd
    exact ev_eq (by rw [show bI (cbP (scX A (runW x0 i (N / 5 ^ (l - i)))) (N / 5 ^ (l - (i + 1)) % 5)) = 1 from bI_t hc]) rfl rfl (K1 hc _ _ hd (hm.tr (mls_ds _ _ _)))
theorem dead_X8_calmsBy {S : Scr} (s l N : Nat) (hl : l ≤ 5) (i : Nat) (hi : i ≤ l) (y : Value) (τ : Sto) {Q : Option Value → Sto → Prop} (hQ : Q (some (.int 0)) τ) : Ev S RX8 cX8_calmsBy 7 (some .boolean) 5 10 [.ref 117, .int (nI s), .int (nI N), .int (nI l), .int 0, .int (nI i), y] [] τ (Q) := by
  rcases Nat.lt_or_ge i l with z | z
  · exact b0_X8_calmsBy s l N hl i z y τ hQ
  · obtain rfl : i = l := by omega
    exact end0_X8_calmsBy s i N y τ hQ
set_option maxRecDepth 100000 in
theorem end1_X8_calmsBy {S : Scr} {A : Abs} (x0 : Nat) (hx : x0 < 1296) (s : Nat) (hs : s < 2 ^ aN A) (l : Nat) (hl : l ≤ 5) (N : Nat) (hN : N < 5 ^ l) (y : Value) (σ τ : Sto) (h : nwR A τ (scX A (runW x0 l N))) (hm : Mls σ τ) (ho : okR x0 l N) : Ev S RX8 cX8_calmsBy 7 (some .boolean) 5 10 [.ref 117, .int (nI s), .int (nI N), .int (nI l), .int 1, .int (nI l), y] [] τ (cbR A x0 s l N σ) := by
  refine ev_iload_5 (pc := 10) dX8_calmsBy_10 ?_
  refine ev_iload_n_3 (pc := 12) dX8_calmsBy_12 ?_
  refine ev_icmp_ge (pc := 13) (tgt := 61) dX8_calmsBy_13 (by decide) (fun h13 => ?_) (fun h13 => by exact absurd (Int32.le_refl _) h13)
  refine ev_iload_4 (pc := 61) dX8_calmsBy_61 ?_
  refine ev_if_eq (pc := 63) (tgt := 81) dX8_calmsBy_63 (by decide) (fun h63 => by exact absurd h63 (by decide)) (fun h63 => ?_)
  refine ev_iload_n_1 (pc := 66) dX8_calmsBy_66 ?_
  refine ev_aload_n_0 (pc := 67) dX8_calmsBy_67 ?_
  refine ev_callV1 (pc := 68) dX8_calmsBy_68 ml_X8_161 (m_X8_calm _ h) (by decide) ⟨_, rfl, rfl⟩ rfl (by decide) rfl (Nat.le_of_ble_eq_true rfl) ?_
  refine ev_iconst (pc := 71) (v := (-1)) dX8_calmsBy_71 (by decide) ?_
  refine ev_ixor (pc := 72) dX8_calmsBy_72 ?_
  refine ev_iand (pc := 73) dX8_calmsBy_73 ?_
  refine ev_if_ne (pc := 74) (tgt := 81) dX8_calmsBy_74 (by decide) (fun h74 => ?_) (fun h74 => ?_)
  · skip
    refine ev_iconst (pc := 81) (v := 0) dX8_calmsBy_81 (by decide) ?_
    exact ev_ireturn (pc := 82) dX8_calmsBy_82 rfl rfl (⟨⟨0, rfl, Or.inr ⟨rfl, fun z => h74 ((sub_pl h.1 hs _).mpr z.2)⟩⟩, hm⟩)
  · skip
    refine ev_iconst (pc := 77) (v := 1) dX8_calmsBy_77 (by decide) ?_
    refine ev_goto (pc := 78) (tgt := 82) dX8_calmsBy_78 (by decide) ?_
    exact ev_ireturn (pc := 82) dX8_calmsBy_82 rfl rfl (⟨⟨1, rfl, Or.inl ⟨rfl, ho, (sub_pl h.1 hs _).mp h74⟩⟩, hm⟩)
theorem live_X8_calmsBy {S : Scr} {A : Abs} (x0 : Nat) (hx : x0 < 1296) (s : Nat) (hs : s < 2 ^ aN A) (l : Nat) (hl : l ≤ 5) (N : Nat) (hN : N < 5 ^ l) (σ : Sto) : ∀ d, d ≤ l → okR x0 (l - d) (N / 5 ^ d) → ∀ y τ, nwR A τ (scX A (runW x0 (l - d) (N / 5 ^ d))) → Mls σ τ → Ev S RX8 cX8_calmsBy 7 (some .boolean) 5 10 [.ref 117, .int (nI s), .int (nI N), .int (nI l), .int 1, .int (nI (l - d)), y] [] τ (cbR A x0 s l N σ) := by
  intro d
  induction d with
  | zero =>
    intro _ ho y τ h hm
    rw [Nat.pow_zero, Nat.div_one] at ho h
    exact end1_X8_calmsBy x0 hx s hs l hl N hN y σ τ h hm ho
  | succ d ih =>
    intro hd ho y τ h hm
    have e1 : l - (l - (d + 1)) = d + 1 := by omega
    have e2 : l - (l - (d + 1) + 1) = d := by omega
    have e3 : l - (d + 1) + 1 = l - d := by omega
    refine b1_X8_calmsBy x0 hx s hs l hl N hN (l - (d + 1)) (by omega) y σ τ (by rw [e1]; exact h) hm (fun hc y' τ' h' m' => ?_) (fun hc y' => ?_)
    · rw [e1, e2] at hc
      rw [e2, e3] at h'
      rw [e3]
      refine ih (by omega) ?_ y' τ' h' m'
      rw [← e3]
      exact ⟨by rw [Nat.div_div_eq_div_mul, ← Nat.pow_succ]; exact ho, by rw [Nat.div_div_eq_div_mul, ← Nat.pow_succ]; exact hc⟩
    · rw [e1, e2] at hc
      refine dead_X8_calmsBy s l N hl _ (by omega) y' τ ⟨⟨0, rfl, Or.inr ⟨rfl, fun z => hc ?_⟩⟩, hm⟩
      have := okR_pre z.1 (l - d) (by omega)
      rw [show l - (l - d) = d by omega, ← e3] at this
      have q := this.2
      rw [Nat.div_div_eq_div_mul, ← Nat.pow_succ] at q
      exact q
theorem m_X8_calmsBy {S : Scr} {A : Abs} (x0 : Nat) (hx : x0 < 1296) (s : Nat) (hs : s < 2 ^ aN A) (l : Nat) (hl : l ≤ 5) (N : Nat) (hN : N < 5 ^ l) (σ : Sto) (h : RM A σ) (h0 : ∀ p, p < 4 → (aC A).1 p = dg x0 p) : Mt S yX8_calmsBy cX8_calmsBy 7 (some .boolean) 5 [.ref 117, .int (nI s), .int (nI N), .int (nI l)] σ (cbR A x0 s l N σ) := by
  refine mt_of (ls := [.ref 117, .int (nI s), .int (nI N), .int (nI l), .null, .null, .null]) (by decide) rfl (Nat.le_of_ble_eq_true rfl) (by simp [Value.category]) ?_
  have hq : nwR A (nowW σ) (scX A x0) := ⟨h.n6, h.nwR.2.1, h.now.cg h0 rfl, okS_x h.1.2.2.1 hx⟩
  have h5 : N / 5 ^ l = 0 := Nat.div_eq_of_lt hN
  have hlv := live_X8_calmsBy (S := S) (A := A) x0 hx s hs l hl N hN σ l (Nat.le_refl l)
  rw [Nat.sub_self] at hlv
  refine ev_iconst (pc := 0) (v := 1) dX8_calmsBy_0 (by decide) ?_
  refine ev_istore_4 (pc := 1) dX8_calmsBy_1 (by decide) ?_
  refine ev_aload_n_0 (pc := 3) dX8_calmsBy_3 ?_
  refine ev_callV0 (pc := 4) dX8_calmsBy_4 ml_X8_157 (m_X8_asItIs σ) (by decide) ⟨_, rfl, rfl⟩ rfl (by decide) rfl (Nat.le_of_ble_eq_true rfl) ?_
  refine ev_iconst (pc := 7) (v := 0) dX8_calmsBy_7 (by decide) ?_
  refine ev_istore_5 (pc := 8) dX8_calmsBy_8 (by decide) ?_
  exact hlv trivial _ _ hq (mls_now σ)
