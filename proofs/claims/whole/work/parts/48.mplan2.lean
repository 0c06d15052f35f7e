/-! ===== the reference: plan, 2 ===== -/
theorem nI_ge0 : ∀ k, k < 5 → (0 : Int32) ≤ nI k := by decide +kernel
abbrev hit (A : Abs) (x0 s l N : Nat) : Prop := okR x0 l N ∧ plA A (nI s) (runW x0 l N)
abbrev noHit (A : Abs) (x0 s l N : Nat) : Prop := ∀ l' N', N' < 5 ^ l' → slt l' N' l N → ¬ hit A x0 s l' N'
theorem noHit.nx {A : Abs} {x0 s l N : Nat} (h : noHit A x0 s l N) (hN : ¬ hit A x0 s l N) : noHit A x0 s l (N + 1) := fun l' N' h1 h2 => by
  by_cases z : l' = l ∧ N' = N
  · rw [z.1, z.2]; exact hN
  · exact h l' N' h1 (by rcases h2 with g | g; exact Or.inl g; exact Or.inr ⟨g.1, by omega⟩)
theorem noHit.up {A : Abs} {x0 s l : Nat} (h : noHit A x0 s l (5 ^ l)) : noHit A x0 s (l + 1) 0 := fun l' N' h1 h2 => by
  refine h l' N' h1 ?_
  rcases h2 with g | g
  · by_cases z : l' = l
    · subst z; exact Or.inr ⟨rfl, h1⟩
    · exact Or.inl (by omega)
  · omega
abbrev plP (A : Abs) (s : Nat) (k : Int32) (σ : Sto) : Option Value → Sto → Prop := fun r τ => (∃ v, r = some (.int v) ∧ planR A (nI s) k v) ∧ RM A τ ∧ FrM σ τ
theorem plan_y {A : Abs} {x0 : Nat} (hx : x0 < 1296) (h0 : ∀ p, p < 4 → (aC A).1 p = dg x0 p) {s l N : Nat} (hl : l ≤ 5) (hN : N < 5 ^ l) (h1 : hit A x0 s l N) (h2 : noHit A x0 s l N) {k v : Int32} (hv : v = if k < 0 then nI l else if nI l ≤ k then -9 else nI (N / 5 ^ (l - 1 - k.toNatClampNeg) % 5)) : planR A (nI s) k v :=
  ⟨x0, hx, h0, Or.inl ⟨l, N, frst_of hx hl hN h1.2 h2, hv⟩⟩
theorem plan_n {A : Abs} {x0 : Nat} (hx : x0 < 1296) (h0 : ∀ p, p < 4 → (aC A).1 p = dg x0 p) {s : Nat} (h2 : noHit A x0 s 6 0) {k : Int32} : planR A (nI s) k (-9) :=
  ⟨x0, hx, h0, Or.inr ⟨none_of hx (fun l N hl hN => h2 l N hN (Or.inl (by omega))), rfl⟩⟩
set_option maxRecDepth 100000 in
theorem bm_X8_plan {S : Scr} {A : Abs} (x0 : Nat) (hx : x0 < 1296) (h0 : ∀ p, p < 4 → (aC A).1 p = dg x0 p) (s : Nat) (hs : s < 2 ^ aN A) (l : Nat) (hl : l ≤ 5) (N : Nat) (hN : N < 5 ^ l) (σ τ : Sto) (h : RM A τ) (hm : Mls σ τ) (hno : noHit A x0 s l N) (K : ∀ τ', RM A τ' → Mls σ τ' → noHit A x0 s l (N + 1) → Ev S RX8 cX8_plan 5 (some .int) 6 37 [.ref 117, .int (nI s), .int (-1), .int (nI l), .int (nI (N + 1))] [] τ' (plP A s (-1) σ)) : Ev S RX8 cX8_plan 5 (some .int) 6 37 [.ref 117, .int (nI s), .int (-1), .int (nI l), .int (nI N)] [] τ (plP A s (-1) σ) := by
  have q5 := pow5 l hl
  refine ev_iload_4 (pc := 37) dX8_plan_37 ?_
  refine ev_iload_n_3 (pc := 39) dX8_plan_39 ?_
  refine ev_callS1 (pc := 40) dX8_plan_40 ml_X8_177 (m_X8_fives l (by omega) τ) rfl (by decide) rfl (Nat.le_of_ble_eq_true rfl) ?_
  refine ev_icmp_ge (pc := 43) (tgt := 95) dX8_plan_43 (by decide) (fun h43 => by exact absurd h43 (nI_ge hN (by omega))) (fun h43 => ?_)
  refine ev_aload_n_0 (pc := 46) dX8_plan_46 ?_
  refine ev_iload_n_1 (pc := 47) dX8_plan_47 ?_
  refine ev_iload_4 (pc := 48) dX8_plan_48 ?_
  refine ev_iload_n_3 (pc := 50) dX8_plan_50 ?_
  refine ev_callV (pc := 51) dX8_plan_51 ml_X8_183 (m_X8_calmsBy x0 hx s hs l hl N hN τ h h0) (by decide) ⟨_, rfl, rfl⟩ rfl (by decide) rfl (Nat.le_of_ble_eq_true rfl) ?_
  rintro r τ' ⟨⟨v, rfl, hv⟩, hm'⟩
  refine ev_if_eq (pc := 54) (tgt := 89) dX8_plan_54 (by decide) (fun h54 => ?_) (fun h54 => ?_)
  · skip
    refine ev_iinc_4 (pc := 89) (v := nI (N + 1)) dX8_plan_89 (nI_inc N) (by decide) ?_
    refine ev_goto (pc := 92) (tgt := 37) dX8_plan_92 (by decide) ?_
    exact K τ' (h.mv hm') (hm.tr hm') (hno.nx (by rcases hv with z | z; exact absurd (z.1.symm.trans h54) (by decide); exact z.2))
  · skip
    have hh : hit A x0 s l N := by rcases hv with z | z; exact z.2; exact absurd z.1 h54
    refine ev_iload_n_2 (pc := 57) dX8_plan_57 ?_
    refine ev_if_ge (pc := 58) (tgt := 65) dX8_plan_58 (by decide) (fun h58 => by exact absurd h58 (by decide)) (fun h58 => ?_)
    refine ev_iload_n_3 (pc := 61) dX8_plan_61 ?_
    refine ev_goto (pc := 62) (tgt := 88) dX8_plan_62 (by decide) ?_
    exact ev_ireturn (pc := 88) dX8_plan_88 rfl rfl (⟨⟨_, rfl, plan_y hx h0 hl hN hh hno rfl⟩, h.mv hm', (hm.tr hm').fr⟩)
theorem lm_X8_plan {S : Scr} {A : Abs} (x0 : Nat) (hx : x0 < 1296) (h0 : ∀ p, p < 4 → (aC A).1 p = dg x0 p) (s : Nat) (hs : s < 2 ^ aN A) (l : Nat) (hl : l ≤ 5) (σ : Sto) (K : ∀ τ', RM A τ' → Mls σ τ' → noHit A x0 s (l + 1) 0 → ∀ x, Ev S RX8 cX8_plan 5 (some .int) 6 29 [.ref 117, .int (nI s), .int (-1), .int (nI (l + 1)), x] [] τ' (plP A s (-1) σ)) : ∀ d N, N + d = 5 ^ l → ∀ τ, RM A τ → Mls σ τ → noHit A x0 s l N → Ev S RX8 cX8_plan 5 (some .int) 6 37 [.ref 117, .int (nI s), .int (-1), .int (nI l), .int (nI N)] [] τ (plP A s (-1) σ) := by
  have q5 := pow5 l hl
  intro d
  induction d with
  | zero =>
    intro N hN τ h hm hno
    obtain rfl : N = 5 ^ l := by omega
    refine ev_iload_4 (pc := 37) dX8_plan_37 ?_
    refine ev_iload_n_3 (pc := 39) dX8_plan_39 ?_
    refine ev_callS1 (pc := 40) dX8_plan_40 ml_X8_177 (m_X8_fives l (by omega) τ) rfl (by decide) rfl (Nat.le_of_ble_eq_true rfl) ?_
    refine ev_icmp_ge (pc := 43) (tgt := 95) dX8_plan_43 (by decide) (fun h43 => ?_) (fun h43 => by exact absurd (Int32.le_refl _) h43)
    refine ev_iinc_3 (pc := 95) (v := nI (l + 1)) dX8_plan_95 (nI_inc l) (by decide) ?_
    refine ev_goto (pc := 98) (tgt := 29) dX8_plan_98 (by decide) ?_
    exact K τ h hm hno.up _
  | succ d ih =>
    intro N hN τ h hm hno
    exact bm_X8_plan x0 hx h0 s hs l hl N (by omega) σ τ h hm hno (fun τ' h' m' n' => ih (N + 1) (by omega) τ' h' m' n')
set_option maxRecDepth 100000 in
theorem bn_X8_plan {S : Scr} {A : Abs} (x0 : Nat) (hx : x0 < 1296) (h0 : ∀ p, p < 4 → (aC A).1 p = dg x0 p) (s : Nat) (hs : s < 2 ^ aN A) (k : Nat) (hk : k < 5) (l : Nat) (hl : l ≤ 5) (N : Nat) (hN : N < 5 ^ l) (σ τ : Sto) (h : RM A τ) (hm : Mls σ τ) (hno : noHit A x0 s l N) (K : ∀ τ', RM A τ' → Mls σ τ' → noHit A x0 s l (N + 1) → Ev S RX8 cX8_plan 5 (some .int) 6 37 [.ref 117, .int (nI s), .int (nI k), .int (nI l), .int (nI (N + 1))] [] τ' (plP A s (nI k) σ)) : Ev S RX8 cX8_plan 5 (some .int) 6 37 [.ref 117, .int (nI s), .int (nI k), .int (nI l), .int (nI N)] [] τ (plP A s (nI k) σ) := by
  have q5 := pow5 l hl
  refine ev_iload_4 (pc := 37) dX8_plan_37 ?_
  refine ev_iload_n_3 (pc := 39) dX8_plan_39 ?_
  refine ev_callS1 (pc := 40) dX8_plan_40 ml_X8_177 (m_X8_fives l (by omega) τ) rfl (by decide) rfl (Nat.le_of_ble_eq_true rfl) ?_
  refine ev_icmp_ge (pc := 43) (tgt := 95) dX8_plan_43 (by decide) (fun h43 => by exact absurd h43 (nI_ge hN (by omega))) (fun h43 => ?_)
  refine ev_aload_n_0 (pc := 46) dX8_plan_46 ?_
  refine ev_iload_n_1 (pc := 47) dX8_plan_47 ?_
  refine ev_iload_4 (pc := 48) dX8_plan_48 ?_
  refine ev_iload_n_3 (pc := 50) dX8_plan_50 ?_
  refine ev_callV (pc := 51) dX8_plan_51 ml_X8_183 (m_X8_calmsBy x0 hx s hs l hl N hN τ h h0) (by decide) ⟨_, rfl, rfl⟩ rfl (by decide) rfl (Nat.le_of_ble_eq_true rfl) ?_
  rintro r τ' ⟨⟨v, rfl, hv⟩, hm'⟩
  refine ev_if_eq (pc := 54) (tgt := 89) dX8_plan_54 (by decide) (fun h54 => ?_) (fun h54 => ?_)
  · skip
    refine ev_iinc_4 (pc := 89) (v := nI (N + 1)) dX8_plan_89 (nI_inc N) (by decide) ?_
    refine ev_goto (pc := 92) (tgt := 37) dX8_plan_92 (by decide) ?_
    exact K τ' (h.mv hm') (hm.tr hm') (hno.nx (by rcases hv with z | z; exact absurd (z.1.symm.trans h54) (by decide); exact z.2))
  · skip
    have hh : hit A x0 s l N := by rcases hv with z | z; exact z.2; exact absurd z.1 h54
    refine ev_iload_n_2 (pc := 57) dX8_plan_57 ?_
    refine ev_if_ge (pc := 58) (tgt := 65) dX8_plan_58 (by decide) (fun h58 => ?_) (fun h58 => by exact absurd (nI_ge0 k hk) h58)
    refine ev_iload_n_2 (pc := 65) dX8_plan_65 ?_
    refine ev_iload_n_3 (pc := 66) dX8_plan_66 ?_
    refine ev_icmp_ge (pc := 67) (tgt := 86) dX8_plan_67 (by decide) (fun h67 => ?_) (fun h67 => ?_)
    · skip
      refine ev_bipush (pc := 86) (v := (-9)) dX8_plan_86 (by decide) ?_
      exact ev_ireturn (pc := 88) dX8_plan_88 rfl rfl (⟨⟨_, rfl, plan_y hx h0 hl hN hh hno (by rw [if_neg (nI_pos (by omega)), if_pos h67])⟩, h.mv hm', (hm.tr hm').fr⟩)
    · skip
      have hkl : k < l := by rw [tI_le, nI_toInt (by omega), nI_toInt (by omega)] at h67; omega
      have q6 := pow5 (l - 1 - k) (by omega)
      have q7 : N / 5 ^ (l - 1 - k) ≤ N := Nat.div_le_self _ _
      refine ev_iload_4 (pc := 70) dX8_plan_70 ?_
      refine ev_iload_n_3 (pc := 72) dX8_plan_72 ?_
      refine ev_iconst (pc := 73) (v := 1) dX8_plan_73 (by decide) ?_
      refine ev_isubc (pc := 74) (v := nI (l - 1)) dX8_plan_74 (nI_sub (a := l) (b := 1) (by omega) (by omega)) ?_
      refine ev_iload_n_2 (pc := 75) dX8_plan_75 ?_
      refine ev_isubc (pc := 76) (v := nI (l - 1 - k)) dX8_plan_76 (nI_sub (a := l - 1) (b := k) (by omega) (by omega)) ?_
      refine ev_callS1 (pc := 77) dX8_plan_77 ml_X8_177 (m_X8_fives (l - 1 - k) (by omega) τ') rfl (by decide) rfl (Nat.le_of_ble_eq_true rfl) ?_
      refine ev_idiv (pc := 80) dX8_plan_80 (fun z => absurd ((nI_z (by omega)).mp z) (by omega)) ?_
      refine ev_iconst (pc := 81) (v := 5) dX8_plan_81 (by decide) ?_
      refine ev_irem (pc := 82) dX8_plan_82 (by decide) ?_
      rw [pk_div (a := N) (d := 5 ^ (l - 1 - k)) (by omega) (by omega) (by omega)]
      rw [show nI (N / 5 ^ (l - 1 - k)) - nI (N / 5 ^ (l - 1 - k)) / 5 * 5 = nI (N / 5 ^ (l - 1 - k) % 5) from pk_rem (d := 5) (by omega) (by decide) (by decide)]
      refine ev_goto (pc := 83) (tgt := 88) dX8_plan_83 (by decide) ?_
      exact ev_ireturn (pc := 88) dX8_plan_88 rfl rfl (⟨⟨_, rfl, plan_y hx h0 hl hN hh hno (by rw [if_neg (nI_pos (by omega)), if_neg h67, nI_clamp (by omega)])⟩, h.mv hm', (hm.tr hm').fr⟩)
theorem ln_X8_plan {S : Scr} {A : Abs} (x0 : Nat) (hx : x0 < 1296) (h0 : ∀ p, p < 4 → (aC A).1 p = dg x0 p) (s : Nat) (hs : s < 2 ^ aN A) (k : Nat) (hk : k < 5) (l : Nat) (hl : l ≤ 5) (σ : Sto) (K : ∀ τ', RM A τ' → Mls σ τ' → noHit A x0 s (l + 1) 0 → ∀ x, Ev S RX8 cX8_plan 5 (some .int) 6 29 [.ref 117, .int (nI s), .int (nI k), .int (nI (l + 1)), x] [] τ' (plP A s (nI k) σ)) : ∀ d N, N + d = 5 ^ l → ∀ τ, RM A τ → Mls σ τ → noHit A x0 s l N → Ev S RX8 cX8_plan 5 (some .int) 6 37 [.ref 117, .int (nI s), .int (nI k), .int (nI l), .int (nI N)] [] τ (plP A s (nI k) σ) := by
  have q5 := pow5 l hl
  intro d
  induction d with
  | zero =>
    intro N hN τ h hm hno
    obtain rfl : N = 5 ^ l := by omega
    refine ev_iload_4 (pc := 37) dX8_plan_37 ?_
    refine ev_iload_n_3 (pc := 39) dX8_plan_39 ?_
    refine ev_callS1 (pc := 40) dX8_plan_40 ml_X8_177 (m_X8_fives l (by omega) τ) rfl (by decide) rfl (Nat.le_of_ble_eq_true rfl) ?_
    refine ev_icmp_ge (pc := 43) (tgt := 95) dX8_plan_43 (by decide) (fun h43 => ?_) (fun h43 => by exact absurd (Int32.le_refl _) h43)
    refine ev_iinc_3 (pc := 95) (v := nI (l + 1)) dX8_plan_95 (nI_inc l) (by decide) ?_
    refine ev_goto (pc := 98) (tgt := 29) dX8_plan_98 (by decide) ?_
    exact K τ h hm hno.up _
  | succ d ih =>
    intro N hN τ h hm hno
    exact bn_X8_plan x0 hx h0 s hs k hk l hl N (by omega) σ τ h hm hno (fun τ' h' m' n' => ih (N + 1) (by omega) τ' h' m' n')
