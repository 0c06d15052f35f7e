/-! ===== the reference: plan, 2 ===== -/
theorem in_m1 : ∀ k, k < 5 → bI ((-1 : Int32) ≤ nI k ∧ nI k ≤ 4) = 1 := by decide +kernel
theorem nI_ge0 : ∀ k, k < 5 → (0 : Int32) ≤ nI k := by decide +kernel
abbrev hit (A : Abs) (x0 s l N : Nat) : Prop := okR x0 l N ∧ plA A (nI s) (runW x0 l N)
abbrev noHit (A : Abs) (x0 s l N : Nat) : Prop := ∀ l' N', N' < 5 ^ l' → slt l' N' l N → ¬ hit A x0 s l' N'
theorem noHit.nx {A : Abs} {x0 s l N : Nat} (h : noHit A x0 s l N) (hN : ¬ hit A x0 s l N) : noHit A x0 s l (N + 1) := fun l' N' h1 h2 => by
  by_cases z : l' = l ∧ N' = N
  · rw [z.1, z.2]; exact hN
  · exact h l' N' h1 (by rcases h2 with g | g; exact Or.inl g; exact Or.inr ⟨g.1, by omega⟩)
theorem noHit.up {A : Abs} {x0 s l : Nat} (h : noHit A x0 s l (5 ^ l)) : noHit A x0 s (l + 1) 0 := fun l' N' h1 h2 => by
  refine h l' N' h1 ?_
  rcases h2 with g | g
  · by_cases z : l' = l
    · subst z; exact Or.inr ⟨rfl, h1⟩
    · exact Or.inl (by omega)
  · omega
abbrev plP (A : Abs) (s : Nat) (k : Int32) (σ : Sto) : Option Value → Sto → Prop := fun r τ => (∃ v, r = some (.int v) ∧ planR A (nI s) k v) ∧ RM A τ ∧ FrM σ τ
theorem plan_y {A : Abs} {x0 : Nat} (hx : x0 < 1296) (h0 : ∀ p, p < 4 → (aC A).1 p = dg x0 p) {s l N : Nat} (hl : l ≤ 5) (hN : N < 5 ^ l) (h1 : hit A x0 s l N) (h2 : noHit A x0 s l N) {k v : Int32} (hv : v = if k < 0 then nI l else if nI l ≤ k then -9 else nI (N / 5 ^ (l - 1 - k.toNatClampNeg) % 5)) : planR A (nI s) k v :=
  ⟨x0, hx, h0, Or.inl ⟨l, N, frst_of hx hl hN h1.2 h2, hv⟩⟩
theorem plan_n {A : Abs} {x0 : Nat} (hx : x0 < 1296) (h0 : ∀ p, p < 4 → (aC A).1 p = dg x0 p) {s : Nat} (h2 : noHit A x0 s 6 0) {k : Int32} : planR A (nI s) k (-9) :=
  ⟨x0, hx, h0, Or.inr ⟨none_of hx (fun l N hl hN => h2 l N hN (Or.inl (by omega))), rfl⟩⟩
set_option maxRecDepth 100000 in
theorem bm_X8_plan {S : Scr} {A : Abs} (x0 : Nat) (hx : x0 < 1296) (h0 : ∀ p, p < 4 → (aC A).1 p = dg x0 p) (s : Nat) (hs : s < 2 ^ aN A) (l : Nat) (hl : l ≤ 5) (N : Nat) (hN : N < 5 ^ l) (σ τ : Sto) (h : RM A τ) (hm : Mls σ τ) (hno : noHit A x0 s l N) (K : ∀ τ', RM A τ' → Mls σ τ' → noHit A x0 s l (N + 1) → Ev S RX8 cX8_plan 5 (some .int) 6 37 [.ref 117, .int (nI s), .int (-1), .int (nI l), .int (nI (N + 1))] [] τ' (plP A s (-1) σ)) : Ev S RX8 cX8_plan 5 (some .int) 6 37 [.ref 117, .int (nI s), .int (-1), .int (nI l), .int (nI N)] [] τ (plP A s (-1) σ) := by
  have q5 := pow5 l hl
  refine ev_iload_4 (pc := 37) dX8_plan_37 ?_
  refine ev_iload_n_3 (pc := 39) dX8_plan_39 ?_
  refine ev_callS1 (pc := 40) dX8_plan_40 ml_X8_177 (m_X8_fives l (by omega) τ) rfl (by decide) rfl (Nat.le_of_ble_eq_true rfl) ?_
  refine ev_icmp_ge (pc := 43) (tgt := 95) dX8_plan_43 (by decide) (fun h43 => by exact absurd h43 (nI_ge hN (by omega))) (fun h43 => ?_)
  refine ev_aload_n_0 (pc := 46) dX8_plan_46 ?_
  refine ev_iload_n_1 (pc := 47) dX8_plan_47 ?_
  refine ev_iload_4 (pc := 48) dX8_plan_48 ?_
  refine ev_iload_n_3 (pc := 50) dX8_plan_50 ?_
  refine ev_callV (pc := 51) dX8_plan_51 ml_X8_183 (m_X8_calmsBy x0 hx s hs l hl N hN τ h h0) (by decide) ⟨_, rfl, rfl⟩ rfl (by decide) rfl (Nat.le_of_ble_eq_true rfl) ?_
  rintro r τ' ⟨⟨v, rfl, hv⟩, hm'⟩
  refine ev_if_eq (pc := 54) (tgt := 89) dX8_plan_54 (by decide) (fun h54 => ?_) (fun h54 => ?_)
  · skip
    refine ev_iinc_4 (pc := 89) (v := nI (N + 1)) dX8_plan_89 (nI_inc N) (by decide) ?_
    refine ev_goto (pc := 92) (tgt := 37) dX8_plan_92 (by decide) ?_
    exact K τ' (h.mv hm') (hm.tr hm') (hno.nx (by rcases hv with z | z; exact absurd (z.1.symm.trans h54) (by decide); exact z.2))
  · skip
    have hh : hit A x0 s l N := by rcases hv with z | z; exact z.2; exact absurd z.1 h54
    refine ev_iload_n_2 (pc := 57) dX8_plan_57 ?_
    refine ev_if_ge (pc := 58) (tgt := 65) dX8_plan_58 (by decide) (fun h58 => by exact absurd h58 (by decide)) (fun h58 => ?_)
    refine ev_iload_n_3 (pc := 61) dX8_plan_61 ?_
    refine ev_goto (pc := 62) (tgt := 88) dX8_plan_62 (by decide) ?_
    exact ev_ireturn (pc := 88) dX8_plan_88 rfl rfl (⟨⟨_, rfl, plan_y hx h0 hl hN hh hno rfl⟩, h.mv hm', (hm.tr hm').fr⟩)
theorem lm_X8_plan {S : Scr} {A : Abs} (x0 : Nat) (hx : x0 < 1296) (h0 : ∀ p, p < 4 → (aC A).1 p = dg x0 p) (s : Nat) (hs : s < 2 ^ aN A) (l : Nat) (hl : l ≤ 5) (σ : Sto) (K : ∀ τ', RM A τ' → Mls σ τ' → noHit A x0 s (l + 1) 0 → ∀ x, Ev S RX8 cX8_plan 5 (some .int) 6 29 [.ref 117, .int (nI s), .int (-1), .int (nI (l + 1)), x] [] τ' (plP A s (-1) σ)) : ∀ d N, N + d = 5 ^ l → ∀ τ, RM A τ → Mls σ τ → noHit A x0 s l N → Ev S RX8 cX8_plan 5 (some .int) 6 37 [.ref 117, .int (nI s), .int (-1), .int (nI l), .int (nI N)] [] τ (plP A s (-1) σ) := by
  have q5 := pow5 l hl
  intro d
  induction d with
  | zero =>
    intro N hN τ h hm hno
    obtain rfl : N = 5 ^ l := by omega
    refine ev_iload_4 (pc := 37) dX8_plan_37 ?_
    refine ev_iload_n_3 (pc := 39) dX8_plan_39 ?_
    refine ev_callS1 (pc := 40) dX8_plan_40 ml_X8_177 (m_X8_fives l (by omega) τ) rfl (by decide) rfl (Nat.le_of_ble_eq_true rfl) ?_
    refine ev_icmp_ge (pc := 43) (tgt := 95) dX8_plan_43 (by decide) (fun h43 => ?_) (fun h43 => by exact absurd (Int32.le_refl _) h43)
    refine ev_iinc_3 (pc := 95) (v := nI (l + 1)) dX8_plan_95 (nI_inc l) (by decide) ?_
    refine ev_goto (pc := 98) (tgt := 29) dX8_plan_98 (by decide) ?_
    exact K τ h hm hno.up _
  | succ d ih =>
    intro N hN τ h hm hno
    exact bm_X8_plan x0 hx h0 s hs l hl N (by omega) σ τ h hm hno (fun τ' h' m' n' => ih (N + 1) (by omega) τ' h' m' n')
theorem om_X8_plan {S : Scr} {A : Abs} (x0 : Nat) (hx : x0 < 1296) (h0 : ∀ p, p < 4 → (aC A).1 p = dg x0 p) (s : Nat) (hs : s < 2 ^ aN A) (σ : Sto) : ∀ e l, l + e = 6 → ∀ τ, RM A τ → Mls σ τ → noHit A x0 s l 0 → ∀ x, Ev S RX8 cX8_plan 5 (some .int) 6 29 [.ref 117, .int (nI s), .int (-1), .int (nI l), x] [] τ (plP A s (-1) σ) := by
  intro e
  induction e with
  | zero =>
    intro l hl τ h hm hno x
    obtain rfl : l = 6 := by omega
    refine ev_iload_n_3 (pc := 29) dX8_plan_29 ?_
    refine ev_iconst (pc := 30) (v := 5) dX8_plan_30 (by decide) ?_
    refine ev_icmp_gt (pc := 31) (tgt := 101) dX8_plan_31 (by decide) (fun h31 => ?_) (fun h31 => by exact absurd h31 (by decide))
    refine ev_bipush (pc := 101) (v := (-9)) dX8_plan_101 (by decide) ?_
    exact ev_ireturn (pc := 103) dX8_plan_103 rfl rfl (⟨⟨_, rfl, plan_n hx h0 hno⟩, h, hm.fr⟩)
  | succ e ih =>
    intro l hl τ h hm hno x
    refine ev_iload_n_3 (pc := 29) dX8_plan_29 ?_
    refine ev_iconst (pc := 30) (v := 5) dX8_plan_30 (by decide) ?_
    refine ev_icmp_gt (pc := 31) (tgt := 101) dX8_plan_31 (by decide) (fun h31 => by exact absurd h31 (Int32.not_lt.mpr (nI_le (a := l) (b := 5) (by omega) (by decide)))) (fun h31 => ?_)
    refine ev_iconst (pc := 34) (v := 0) dX8_plan_34 (by decide) ?_
    refine ev_istore_4 (pc := 35) dX8_plan_35 (by decide) ?_
    exact lm_X8_plan x0 hx h0 s hs l (by omega) σ (fun τ' h' m' n' x' => ih (l + 1) (by omega) τ' h' m' n' x') (5 ^ l) 0 (by omega) τ h hm hno
theorem mm_X8_plan {S : Scr} {A : Abs} (x0 : Nat) (hx : x0 < 1296) (h0 : ∀ p, p < 4 → (aC A).1 p = dg x0 p) (s : Nat) (hs : s < 2 ^ aN A) (σ : Sto) (h : RM A σ) : Mt S yX8_plan cX8_plan 5 (some .int) 6 [.ref 117, .int (nI s), .int (-1)] σ (plP A s (-1) σ) := by
  refine mt_of (ls := [.ref 117, .int (nI s), .int (-1), .null, .null]) (by decide) rfl (Nat.le_of_ble_eq_true rfl) (by simp [Value.category]) ?_
  have hp := pow_n _ h.n6
  have hin : bI ((0 : Int32) ≤ nI s ∧ nI s ≤ nI (2 ^ aN A - 1)) = 1 := bI_t ⟨nI_le (a := 0) (by omega) (by omega), nI_le (by omega) (by omega)⟩
  refine ev_iload_n_1 (pc := 0) dX8_plan_0 ?_
  refine ev_iconst (pc := 1) (v := 0) dX8_plan_1 (by decide) ?_
  refine ev_iconst (pc := 2) (v := 1) dX8_plan_2 (by decide) ?_
  refine ev_aload_n_0 (pc := 3) dX8_plan_3 ?_
  refine ev_getI (pc := 4) dX8_plan_4 fl_X8_50 (by decide) (by decide) (by decide) ?_
  rw [h.m]
  refine ev_ishl (pc := 7) dX8_plan_7 ?_
  refine ev_iconst (pc := 8) (v := 1) dX8_plan_8 (by decide) ?_
  skip
  refine ev_isub (pc := 9) dX8_plan_9 ?_
  rw [all_n _ h.n6]
  refine ev_callS1 (pc := 10) dX8_plan_10 ml_X8_54 (m_X8_in _ _ _ σ) rfl (by decide) rfl (Nat.le_of_ble_eq_true rfl) ?_
  rw [hin]
  refine ev_if_eq (pc := 13) (tgt := 25) dX8_plan_13 (by decide) (fun h13 => by exact absurd h13 (by decide)) (fun h13 => ?_)
  refine ev_iload_n_2 (pc := 16) dX8_plan_16 ?_
  refine ev_iconst (pc := 17) (v := (-1)) dX8_plan_17 (by decide) ?_
  refine ev_iconst (pc := 18) (v := 4) dX8_plan_18 (by decide) ?_
  refine ev_callS1 (pc := 19) dX8_plan_19 ml_X8_54 (m_X8_in _ _ _ σ) rfl (by decide) rfl (Nat.le_of_ble_eq_true rfl) ?_
  rw [show bI ((-1 : Int32) ≤ -1 ∧ (-1 : Int32) ≤ 4) = 1 from by decide]
  refine ev_if_ne (pc := 22) (tgt := 27) dX8_plan_22 (by decide) (fun h22 => ?_) (fun h22 => by exact absurd h22 (by decide))
  refine ev_iconst (pc := 27) (v := 0) dX8_plan_27 (by decide) ?_
  refine ev_istore_n_3 (pc := 28) dX8_plan_28 (by decide) ?_
  exact om_X8_plan x0 hx h0 s hs σ 6 0 rfl σ h (Mls.rf σ) (fun l' N' h1 h2 => absurd h2 (by rintro (z | z); exact absurd z (Nat.not_lt_zero _); exact absurd z.2 (Nat.not_lt_zero _))) _
set_option maxRecDepth 100000 in
theorem bn_X8_plan {S : Scr} {A : Abs} (x0 : Nat) (hx : x0 < 1296) (h0 : ∀ p, p < 4 → (aC A).1 p = dg x0 p) (s : Nat) (hs : s < 2 ^ aN A) (k : Nat) (hk : k < 5) (l : Nat) (hl : l ≤ 5) (N : Nat) (hN : N < 5 ^ l) (σ τ : Sto) (h : RM A τ) (hm : Mls σ τ) (hno : noHit A x0 s l N) (K : ∀ τ', RM A τ' → Mls σ τ' → noHit A x0 s l (N + 1) → Ev S RX8 cX8_plan 5 (some .int) 6 37 [.ref 117, .int (nI s), .int (nI k), .int (nI l), .int (nI (N + 1))] [] τ' (plP A s (nI k) σ)) : Ev S RX8 cX8_plan 5 (some .int) 6 37 [.ref 117, .int (nI s), .int (nI k), .int (nI l), .int (nI N)] [] τ (plP A s (nI k) σ) := by
  have q5 := pow5 l hl
  refine ev_iload_4 (pc := 37) dX8_plan_37 ?_
  refine ev_iload_n_3 (pc := 39) dX8_plan_39 ?_
  refine ev_callS1 (pc := 40) dX8_plan_40 ml_X8_177 (m_X8_fives l (by omega) τ) rfl (by decide) rfl (Nat.le_of_ble_eq_true rfl) ?_
  refine ev_icmp_ge (pc := 43) (tgt := 95) dX8_plan_43 (by decide) (fun h43 => by exact absurd h43 (nI_ge hN (by omega))) (fun h43 => ?_)
  refine ev_aload_n_0 (pc := 46) dX8_plan_46 ?_
  refine ev_iload_n_1 (pc := 47) dX8_plan_47 ?_
  refine ev_iload_4 (pc := 48) dX8_plan_48 ?_
  refine ev_iload_n_3 (pc := 50) dX8_plan_50 ?_
  refine ev_callV (pc := 51) dX8_plan_51 ml_X8_183 (m_X8_calmsBy x0 hx s hs l hl N hN τ h h0) (by decide) ⟨_, rfl, rfl⟩ rfl (by decide) rfl (Nat.le_of_ble_eq_true rfl) ?_
  rintro r τ' ⟨⟨v, rfl, hv⟩, hm'⟩
  refine ev_if_eq (pc := 54) (tgt := 89) dX8_plan_54 (by decide) (fun h54 => ?_) (fun h54 => ?_)
  · skip
    refine ev_iinc_4 (pc := 89) (v := nI (N + 1)) dX8_plan_89 (nI_inc N) (by decide) ?_
    refine ev_goto (pc := 92) (tgt := 37) dX8_plan_92 (by decide) ?_
    exact K τ' (h.mv hm') (hm.tr hm') (hno.nx (by rcases hv with z | z; exact absurd (z.1.symm.trans h54) (by decide); exact z.2))
  · skip
    have hh : hit A x0 s l N := by rcases hv with z | z; exact z.2; exact absurd z.1 h54
    refine ev_iload_n_2 (pc := 57) dX8_plan_57 ?_
    refine ev_if_ge (pc := 58) (tgt := 65) dX8_plan_58 (by decide) (fun h58 => ?_) (fun h58 => by exact absurd (nI_ge0 k hk) h58)
    refine ev_iload_n_2 (pc := 65) dX8_plan_65 ?_
    refine ev_iload_n_3 (pc := 66) dX8_plan_66 ?_
    refine ev_icmp_ge (pc := 67) (tgt := 86) dX8_plan_67 (by decide) (fun h67 => ?_) (fun h67 => ?_)
    · skip
      refine ev_bipush (pc := 86) (v := (-9)) dX8_plan_86 (by decide) ?_
      exact ev_ireturn (pc := 88) dX8_plan_88 rfl rfl (⟨⟨_, rfl, plan_y hx h0 hl hN hh hno (by rw [if_neg (nI_pos (by omega)), if_pos h67])⟩, h.mv hm', (hm.tr hm').fr⟩)
    · skip
      have hkl : k < l := by rw [tI_le, nI_toInt (by omega), nI_toInt (by omega)] at h67; omega
      have q6 := pow5 (l - 1 - k) (by omega)
      have q7 : N / 5 ^ (l - 1 - k) ≤ N := Nat.div_le_self _ _
      refine ev_iload_4 (pc := 70) dX8_plan_70 ?_
      refine ev_iload_n_3 (pc := 72) dX8_plan_72 ?_
      refine ev_iconst (pc := 73) (v := 1) dX8_plan_73 (by decide) ?_
      refine ev_isubc (pc := 74) (v := nI (l - 1)) dX8_plan_74 (nI_sub (a := l) (b := 1) (by omega) (by omega)) ?_
      refine ev_iload_n_2 (pc := 75) dX8_plan_75 ?_
      refine ev_isubc (pc := 76) (v := nI (l - 1 - k)) dX8_plan_76 (nI_sub (a := l - 1) (b := k) (by omega) (by omega)) ?_
      refine ev_callS1 (pc := 77) dX8_plan_77 ml_X8_177 (m_X8_fives (l - 1 - k) (by omega) τ') rfl (by decide) rfl (Nat.le_of_ble_eq_true rfl) ?_
      refine ev_idiv (pc := 80) dX8_plan_80 (fun z => absurd ((nI_z (by omega)).mp z) (by omega)) ?_
      refine ev_iconst (pc := 81) (v := 5) dX8_plan_81 (by decide) ?_
      refine ev_irem (pc := 82) dX8_plan_82 (by decide) ?_
      rw [pk_div (a := N) (d := 5 ^ (l - 1 - k)) (by omega) (by omega) (by omega)]
      rw [show nI (N / 5 ^ (l - 1 - k)) - nI (N / 5 ^ (l - 1 - k)) / 5 * 5 = nI (N / 5 ^ (l - 1 - k) % 5) from pk_rem (d := 5) (by omega) (by decide) (by decide)]
      refine ev_goto (pc := 83) (tgt := 88) dX8_plan_83 (by decide) ?_
      exact ev_ireturn (pc := 88) dX8_plan_88 rfl rfl (⟨⟨_, rfl, plan_y hx h0 hl hN hh hno (by rw [if_neg (nI_pos (by omega)), if_neg h67, nI_clamp (by omega)])⟩, h.mv hm', (hm.tr hm').fr⟩)
theorem ln_X8_plan {S : Scr} {A : Abs} (x0 : Nat) (hx : x0 < 1296) (h0 : ∀ p, p < 4 → (aC A).1 p = dg x0 p) (s : Nat) (hs : s < 2 ^ aN A) (k : Nat) (hk : k < 5) (l : Nat) (hl : l ≤ 5) (σ : Sto) (K : ∀ τ', RM A τ' → Mls σ τ' → noHit A x0 s (l + 1) 0 → ∀ x, Ev S RX8 cX8_plan 5 (some .int) 6 29 [.ref 117, .int (nI s), .int (nI k), .int (nI (l + 1)), x] [] τ' (plP A s (nI k) σ)) : ∀ d N, N + d = 5 ^ l → ∀ τ, RM A τ → Mls σ τ → noHit A x0 s l N → Ev S RX8 cX8_plan 5 (some .int) 6 37 [.ref 117, .int (nI s), .int (nI k), .int (nI l), .int (nI N)] [] τ (plP A s (nI k) σ) := by
  have q5 := pow5 l hl
  intro d
  induction d with
  | zero =>
    intro N hN τ h hm hno
    obtain rfl : N = 5 ^ l := by omega
    refine ev_iload_4 (pc := 37) dX8_plan_37 ?_
    refine ev_iload_n_3 (pc := 39) dX8_plan_39 ?_
    refine ev_callS1 (pc := 40) dX8_plan_40 ml_X8_177 (m_X8_fives l (by omega) τ) rfl (by decide) rfl (Nat.le_of_ble_eq_true rfl) ?_
    refine ev_icmp_ge (pc := 43) (tgt := 95) dX8_plan_43 (by decide) (fun h43 => ?_) (fun h43 => by exact absurd (Int32.le_refl _) h43)
    refine ev_iinc_3 (pc := 95) (v := nI (l + 1)) dX8_plan_95 (nI_inc l) (by decide) ?_
    refine ev_goto (pc := 98) (tgt := 29) dX8_plan_98 (by decide) ?_
    exact K τ h hm hno.up _
  | succ d ih =>
    intro N hN τ h hm hno
    exact bn_X8_plan x0 hx h0 s hs k hk l hl N (by omega) σ τ h hm hno (fun τ' h' m' n' => ih (N + 1) (by omega) τ' h' m' n')
theorem on_X8_plan {S : Scr} {A : Abs} (x0 : Nat) (hx : x0 < 1296) (h0 : ∀ p, p < 4 → (aC A).1 p = dg x0 p) (s : Nat) (hs : s < 2 ^ aN A) (k : Nat) (hk : k < 5) (σ : Sto) : ∀ e l, l + e = 6 → ∀ τ, RM A τ → Mls σ τ → noHit A x0 s l 0 → ∀ x, Ev S RX8 cX8_plan 5 (some .int) 6 29 [.ref 117, .int (nI s), .int (nI k), .int (nI l), x] [] τ (plP A s (nI k) σ) := by
  intro e
  induction e with
  | zero =>
    intro l hl τ h hm hno x
    obtain rfl : l = 6 := by omega
    refine ev_iload_n_3 (pc := 29) dX8_plan_29 ?_
    refine ev_iconst (pc := 30) (v := 5) dX8_plan_30 (by decide) ?_
    refine ev_icmp_gt (pc := 31) (tgt := 101) dX8_plan_31 (by decide) (fun h31 => ?_) (fun h31 => by exact absurd h31 (by decide))
    refine ev_bipush (pc := 101) (v := (-9)) dX8_plan_101 (by decide) ?_
    exact ev_ireturn (pc := 103) dX8_plan_103 rfl rfl (⟨⟨_, rfl, plan_n hx h0 hno⟩, h, hm.fr⟩)
  | succ e ih =>
    intro l hl τ h hm hno x
    refine ev_iload_n_3 (pc := 29) dX8_plan_29 ?_
    refine ev_iconst (pc := 30) (v := 5) dX8_plan_30 (by decide) ?_
    refine ev_icmp_gt (pc := 31) (tgt := 101) dX8_plan_31 (by decide) (fun h31 => by exact absurd h31 (Int32.not_lt.mpr (nI_le (a := l) (b := 5) (by omega) (by decide)))) (fun h31 => ?_)
    refine ev_iconst (pc := 34) (v := 0) dX8_plan_34 (by decide) ?_
    refine ev_istore_4 (pc := 35) dX8_plan_35 (by decide) ?_
    exact ln_X8_plan x0 hx h0 s hs k hk l (by omega) σ (fun τ' h' m' n' x' => ih (l + 1) (by omega) τ' h' m' n' x') (5 ^ l) 0 (by omega) τ h hm hno
theorem mn_X8_plan {S : Scr} {A : Abs} (x0 : Nat) (hx : x0 < 1296) (h0 : ∀ p, p < 4 → (aC A).1 p = dg x0 p) (s : Nat) (hs : s < 2 ^ aN A) (k : Nat) (hk : k < 5) (σ : Sto) (h : RM A σ) : Mt S yX8_plan cX8_plan 5 (some .int) 6 [.ref 117, .int (nI s), .int (nI k)] σ (plP A s (nI k) σ) := by
  refine mt_of (ls := [.ref 117, .int (nI s), .int (nI k), .null, .null]) (by decide) rfl (Nat.le_of_ble_eq_true rfl) (by simp [Value.category]) ?_
  have hp := pow_n _ h.n6
  have hin : bI ((0 : Int32) ≤ nI s ∧ nI s ≤ nI (2 ^ aN A - 1)) = 1 := bI_t ⟨nI_le (a := 0) (by omega) (by omega), nI_le (by omega) (by omega)⟩
  refine ev_iload_n_1 (pc := 0) dX8_plan_0 ?_
  refine ev_iconst (pc := 1) (v := 0) dX8_plan_1 (by decide) ?_
  refine ev_iconst (pc := 2) (v := 1) dX8_plan_2 (by decide) ?_
  refine ev_aload_n_0 (pc := 3) dX8_plan_3 ?_
  refine ev_getI (pc := 4) dX8_plan_4 fl_X8_50 (by decide) (by decide) (by decide) ?_
  rw [h.m]
  refine ev_ishl (pc := 7) dX8_plan_7 ?_
  refine ev_iconst (pc := 8) (v := 1) dX8_plan_8 (by decide) ?_
  skip
  refine ev_isub (pc := 9) dX8_plan_9 ?_
  rw [all_n _ h.n6]
  refine ev_callS1 (pc := 10) dX8_plan_10 ml_X8_54 (m_X8_in _ _ _ σ) rfl (by decide) rfl (Nat.le_of_ble_eq_true rfl) ?_
  rw [hin]
  refine ev_if_eq (pc := 13) (tgt := 25) dX8_plan_13 (by decide) (fun h13 => by exact absurd h13 (by decide)) (fun h13 => ?_)
  refine ev_iload_n_2 (pc := 16) dX8_plan_16 ?_
  refine ev_iconst (pc := 17) (v := (-1)) dX8_plan_17 (by decide) ?_
  refine ev_iconst (pc := 18) (v := 4) dX8_plan_18 (by decide) ?_
  refine ev_callS1 (pc := 19) dX8_plan_19 ml_X8_54 (m_X8_in _ _ _ σ) rfl (by decide) rfl (Nat.le_of_ble_eq_true rfl) ?_
  rw [in_m1 k hk]
  refine ev_if_ne (pc := 22) (tgt := 27) dX8_plan_22 (by decide) (fun h22 => ?_) (fun h22 => by exact absurd h22 (by decide))
  refine ev_iconst (pc := 27) (v := 0) dX8_plan_27 (by decide) ?_
  refine ev_istore_n_3 (pc := 28) dX8_plan_28 (by decide) ?_
  exact on_X8_plan x0 hx h0 s hs k hk σ 6 0 rfl σ h (Mls.rf σ) (fun l' N' h1 h2 => absurd h2 (by rintro (z | z); exact absurd z (Nat.not_lt_zero _); exact absurd z.2 (Nat.not_lt_zero _))) _
theorem ex_x0 {A : Abs} (h : AI A) : ∃ x0, x0 < 1296 ∧ ∀ p, p < 4 → (aC A).1 p = dg x0 p := by
  obtain ⟨a, ha, ea⟩ := h.2.2.1.1 0 (by decide)
  obtain ⟨b, hb, eb⟩ := h.2.2.1.1 1 (by decide)
  obtain ⟨c, hc, ec⟩ := h.2.2.1.1 2 (by decide)
  obtain ⟨d, hd, ed⟩ := h.2.2.1.1 3 (by decide)
  refine ⟨((a * 6 + b) * 6 + c) * 6 + d, by omega, fun p hp => ?_⟩
  match p, hp with
  | 0, _ => rw [ea]; show nI a = nI ((((a * 6 + b) * 6 + c) * 6 + d) / 216); congr 1; omega
  | 1, _ => rw [eb]; show nI b = nI ((((a * 6 + b) * 6 + c) * 6 + d) / 36 % 6); congr 1; omega
  | 2, _ => rw [ec]; show nI c = nI ((((a * 6 + b) * 6 + c) * 6 + d) / 6 % 6); congr 1; omega
  | 3, _ => rw [ed]; show nI d = nI ((((a * 6 + b) * 6 + c) * 6 + d) % 6); congr 1; omega
theorem m_X8_plan {S : Scr} {A : Abs} (s k : Int32) (hs : ¬ s < 0 ∧ s ≤ allA A) (hk : ¬ k < -1 ∧ k < 5) (σ : Sto) (h : RM A σ) : Mt S yX8_plan cX8_plan 5 (some .int) 6 [.ref 117, .int s, .int k] σ (fun r τ => (∃ v, r = some (.int v) ∧ planR A s k v) ∧ RM A τ ∧ FrM σ τ) := by
  obtain ⟨x0, hx, h0⟩ := ex_x0 h.1
  have hp := pow_n _ h.n6
  obtain ⟨sn, hsn, rfl⟩ := nat_of (b := s) (n := 2 ^ aN A) (by omega) ⟨hs.1, by
    have := hs.2
    rw [tI_le, nI_toInt (by omega)] at this
    rw [tI_lt, nI_toInt (by omega)]; omega⟩
  by_cases z : k < 0
  · have e : k = -1 := by
      have := hk.1
      rw [tI_lt, show (-1 : Int32).toInt = -1 from rfl] at this
      rw [tI_lt, Int32.toInt_zero] at z
      rw [tI_eq, show (-1 : Int32).toInt = -1 from rfl]; omega
    subst e
    exact mm_X8_plan x0 hx h0 sn hsn σ h
  · obtain ⟨kn, hkn, rfl⟩ := nat_of (b := k) (n := 5) (by decide) ⟨z, hk.2⟩
    exact mn_X8_plan x0 hx h0 sn hsn kn hkn σ h
set_option maxRecDepth 100000 in
theorem m_X8_plan0 {S : Scr} {A : Abs} (s k : Int32) (hb : ¬ ((¬ s < 0 ∧ s ≤ allA A) ∧ ¬ k < -1 ∧ k < 5)) (σ : Sto) (h : RM A σ) : Mt S yX8_plan cX8_plan 5 (some .int) 6 [.ref 117, .int s, .int k] σ (Is (some (.int (-1))) σ) := by
  refine mt_of (ls := [.ref 117, .int s, .int k, .null, .null]) (by decide) rfl (Nat.le_of_ble_eq_true rfl) (by simp [Value.category]) ?_
  refine ev_iload_n_1 (pc := 0) dX8_plan_0 ?_
  refine ev_iconst (pc := 1) (v := 0) dX8_plan_1 (by decide) ?_
  refine ev_iconst (pc := 2) (v := 1) dX8_plan_2 (by decide) ?_
  refine ev_aload_n_0 (pc := 3) dX8_plan_3 ?_
  refine ev_getI (pc := 4) dX8_plan_4 fl_X8_50 (by decide) (by decide) (by decide) ?_
  rw [h.m]
  refine ev_ishl (pc := 7) dX8_plan_7 ?_
  refine ev_iconst (pc := 8) (v := 1) dX8_plan_8 (by decide) ?_
  refine ev_isub (pc := 9) dX8_plan_9 ?_
  rw [all_n _ h.n6]
  refine ev_callS1 (pc := 10) dX8_plan_10 ml_X8_54 (m_X8_in _ _ _ σ) rfl (by decide) rfl (Nat.le_of_ble_eq_true rfl) ?_
  refine ev_if_eq (pc := 13) (tgt := 25) dX8_plan_13 (by decide) (fun h13 => ?_) (fun h13 => ?_)
  · skip
    refine ev_iconst (pc := 25) (v := (-1)) dX8_plan_25 (by decide) ?_
    exact ev_ireturn (pc := 26) dX8_plan_26 rfl rfl (⟨rfl, rfl⟩)
  · skip
    refine ev_iload_n_2 (pc := 16) dX8_plan_16 ?_
    refine ev_iconst (pc := 17) (v := (-1)) dX8_plan_17 (by decide) ?_
    refine ev_iconst (pc := 18) (v := 4) dX8_plan_18 (by decide) ?_
    refine ev_callS1 (pc := 19) dX8_plan_19 ml_X8_54 (m_X8_in _ _ _ σ) rfl (by decide) rfl (Nat.le_of_ble_eq_true rfl) ?_
    refine ev_if_ne (pc := 22) (tgt := 27) dX8_plan_22 (by decide) (fun h22 => ?_) (fun h22 => ?_)
    · skip
      have q1 := Decidable.not_not.mp (fun z => h13 (bI_f z))
      have q2 := Decidable.not_not.mp (fun z => h22 (bI_f z))
      refine absurd ⟨⟨Int32.not_lt.mpr q1.1, q1.2⟩, Int32.not_lt.mpr q2.1, ?_⟩ hb
      have := q2.2
      rw [tI_le, show (4 : Int32).toInt = 4 from rfl] at this
      rw [tI_lt, show (5 : Int32).toInt = 5 from rfl]; omega
    · skip
      refine ev_iconst (pc := 25) (v := (-1)) dX8_plan_25 (by decide) ?_
      exact ev_ireturn (pc := 26) dX8_plan_26 rfl rfl (⟨rfl, rfl⟩)
