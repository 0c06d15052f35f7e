/-! ===== the reference: kitchen ===== -/
/-- reading stands ahead of the item at a: nothing wrong yet -/
def mkI (f : Nat → Int32) (n a nb : Nat) (pt : Bool) (L : Nat → Nat → Int32) (P : Nat → Int32) (it : Nat) (σ τ : Sto) : Prop := Mls σ τ ∧ τ.1 117 18 = 0 ∧ nxT f n a τ ∧ τ.1 117 19 = nI it ∧ τ.1 117 20 = nI nb ∧ (τ.1 117 22 = if pt = true then 1 else 0) ∧ (∀ b, b < nb → ∀ k, k < 6 → τ.1 127 (6 * b + k) = L b k) ∧ ∀ k, k < 4 → τ.1 128 k = P k
theorem tok0 {f : Nat → Int32} {n c : Nat} {τ : Sto} (h : nxT f n c τ) : τ.1 117 16 = 0 ↔ ¬ skp f n c < n := by
  rcases h.2 with z | z | z | z
  · exact ⟨fun _ => z.1, fun _ => z.2⟩
  · exact ⟨fun y => absurd (z.2.2.1.symm.trans y) (by decide), fun y => absurd z.1.1 y⟩
  · refine ⟨fun y => ?_, fun y => absurd z.1.1 y⟩
    rcases z.2.2 with x | x
    · exact absurd (x.symm.trans y) (by decide)
    · exact absurd (x.1.symm.trans y) (by decide)
  · refine ⟨fun y => absurd (z.2.2.1.symm.trans y) ?_, fun y => absurd z.1 y⟩
    unfold tokC; split
    · decide
    · split <;> decide
theorem mls_w' {σ τ : Sto} {j : Nat} {x : Int32} (g : Mls σ τ) (h : 14 ≤ j) : Mls σ (wr τ 117 j x) := g.tr (mls_w h)
set_option maxRecDepth 100000 in
theorem z_X8_kitchen {S : Scr} (y : Value) (τ : Sto) {Q : Option Value → Sto → Prop} (hw : τ.1 117 18 = 1) (K : Q (some (.int (-10 - τ.1 117 15))) τ) : Ev S RX8 cX8_kitchen 2 (some .int) 6 49 [.ref 117, y] [] τ (Q) := by
  refine ev_aload_n_0 (pc := 49) dX8_kitchen_49 ?_
  refine ev_getI (pc := 50) dX8_kitchen_50 fl_X8_74 (by decide) (by decide) (by decide) ?_
  refine ev_if_eq (pc := 53) (tgt := 80) dX8_kitchen_53 (by decide) (fun h53 => ?_) (fun h53 => ?_)
  · skip
    refine ev_aload_n_0 (pc := 80) dX8_kitchen_80 ?_
    refine ev_getI (pc := 81) dX8_kitchen_81 fl_X8_81 (by decide) (by decide) (by decide) ?_
    rw [hw]
    refine ev_if_eq (pc := 84) (tgt := 95) dX8_kitchen_84 (by decide) (fun h84 => by exact absurd h84 (by decide)) (fun h84 => ?_)
    refine ev_bipush (pc := 87) (v := (-10)) dX8_kitchen_87 (by decide) ?_
    refine ev_aload_n_0 (pc := 89) dX8_kitchen_89 ?_
    refine ev_getI (pc := 90) dX8_kitchen_90 fl_X8_68 (by decide) (by decide) (by decide) ?_
    refine ev_isub (pc := 93) dX8_kitchen_93 ?_
    exact ev_ireturn (pc := 94) dX8_kitchen_94 rfl rfl (K)
  · skip
    refine ev_aload_n_0 (pc := 56) dX8_kitchen_56 ?_
    refine ev_getI (pc := 57) dX8_kitchen_57 fl_X8_81 (by decide) (by decide) (by decide) ?_
    rw [hw]
    refine ev_if_ne (pc := 60) (tgt := 80) dX8_kitchen_60 (by decide) (fun h60 => ?_) (fun h60 => by exact absurd h60 (by decide))
    refine ev_aload_n_0 (pc := 80) dX8_kitchen_80 ?_
    refine ev_getI (pc := 81) dX8_kitchen_81 fl_X8_81 (by decide) (by decide) (by decide) ?_
    rw [hw]
    refine ev_if_eq (pc := 84) (tgt := 95) dX8_kitchen_84 (by decide) (fun h84 => by exact absurd h84 (by decide)) (fun h84 => ?_)
    refine ev_bipush (pc := 87) (v := (-10)) dX8_kitchen_87 (by decide) ?_
    refine ev_aload_n_0 (pc := 89) dX8_kitchen_89 ?_
    refine ev_getI (pc := 90) dX8_kitchen_90 fl_X8_68 (by decide) (by decide) (by decide) ?_
    refine ev_isub (pc := 93) dX8_kitchen_93 ?_
    exact ev_ireturn (pc := 94) dX8_kitchen_94 rfl rfl (K)
set_option maxRecDepth 100000 in
theorem k_X8_kitchen {S : Scr} (nb : Nat) (hnb : nb ≤ 6) (y : Value) (τ : Sto) {Q : Option Value → Sto → Prop} (ht : τ.1 117 16 = 0) (hw : τ.1 117 18 = 0) (hn : τ.1 117 20 = nI nb) (K : ∀ ρ, stP nb τ ρ → Q (some (.int (τ.1 117 19))) ρ) : Ev S RX8 cX8_kitchen 2 (some .int) 6 49 [.ref 117, y] [] τ (Q) := by
  refine ev_aload_n_0 (pc := 49) dX8_kitchen_49 ?_
  refine ev_getI (pc := 50) dX8_kitchen_50 fl_X8_74 (by decide) (by decide) (by decide) ?_
  rw [ht]
  refine ev_if_eq (pc := 53) (tgt := 80) dX8_kitchen_53 (by decide) (fun h53 => ?_) (fun h53 => by exact absurd rfl h53)
  refine ev_aload_n_0 (pc := 80) dX8_kitchen_80 ?_
  refine ev_getI (pc := 81) dX8_kitchen_81 fl_X8_81 (by decide) (by decide) (by decide) ?_
  rw [hw]
  refine ev_if_eq (pc := 84) (tgt := 95) dX8_kitchen_84 (by decide) (fun h84 => ?_) (fun h84 => by exact absurd rfl h84)
  refine ev_aload_n_0 (pc := 95) dX8_kitchen_95 ?_
  refine ev_callV (pc := 96) dX8_kitchen_96 ml_X8_110 (m_X8_settles nb hnb τ hn) (by decide) ⟨_, rfl, rfl⟩ rfl (by decide) rfl (Nat.le_of_ble_eq_true rfl) ?_
  rintro r ρ ⟨rfl, hS⟩
  refine ev_aload_n_0 (pc := 99) dX8_kitchen_99 ?_
  refine ev_getI (pc := 100) dX8_kitchen_100 fl_X8_104 (by decide) (by decide) (by decide) ?_
  rw [hS.2.2.1]
  exact ev_ireturn (pc := 103) dX8_kitchen_103 rfl rfl (K ρ hS)
set_option maxRecDepth 100000 in
theorem b_X8_kitchen {S : Scr} (f : Nat → Int32) (n c nb : Nat) (hnb6 : nb ≤ 6) (pt : Bool) (it : Nat) (y : Value) (τ : Sto) {Q : Option Value → Sto → Prop} (h : txT f n τ) (hT : nxT f n c τ) (hs : skp f n c < n) (hw : τ.1 117 18 = 0) (hi : τ.1 117 19 = nI it) (hnb : τ.1 117 20 = nI nb) (hpt : τ.1 117 22 = if pt = true then 1 else 0) (K : ∀ ρ, riM f n (skp f n c) nb pt τ ρ → Ev S RX8 cX8_kitchen 2 (some .int) 6 49 [.ref 117, y] [] (wr ρ 117 19 (nI (it + 1))) (Q)) : Ev S RX8 cX8_kitchen 2 (some .int) 6 49 [.ref 117, y] [] τ (Q) := by
  refine ev_aload_n_0 (pc := 49) dX8_kitchen_49 ?_
  refine ev_getI (pc := 50) dX8_kitchen_50 fl_X8_74 (by decide) (by decide) (by decide) ?_
  refine ev_if_eq (pc := 53) (tgt := 80) dX8_kitchen_53 (by decide) (fun h53 => by exact absurd h53 (fun z => (tok0 hT).mp z hs)) (fun h53 => ?_)
  refine ev_aload_n_0 (pc := 56) dX8_kitchen_56 ?_
  refine ev_getI (pc := 57) dX8_kitchen_57 fl_X8_81 (by decide) (by decide) (by decide) ?_
  rw [hw]
  refine ev_if_ne (pc := 60) (tgt := 80) dX8_kitchen_60 (by decide) (fun h60 => by exact absurd rfl h60) (fun h60 => ?_)
  refine ev_aload_n_0 (pc := 63) dX8_kitchen_63 ?_
  refine ev_callV (pc := 64) dX8_kitchen_64 ml_X8_107 (m_X8_readItem f n c nb hnb6 pt τ h hT hs hw hnb hpt) (by decide) ⟨_, rfl, rfl⟩ rfl (by decide) rfl (Nat.le_of_ble_eq_true rfl) ?_
  rintro r ρ ⟨rfl, hM⟩
  refine ev_aload_n_0 (pc := 67) dX8_kitchen_67 ?_
  refine ev_dup (pc := 68) dX8_kitchen_68 rfl ?_
  refine ev_getI (pc := 69) dX8_kitchen_69 fl_X8_104 (by decide) (by decide) (by decide) ?_
  rw [show ρ.1 117 19 = nI it from (hM.1.2.2 19 (by decide)).trans hi]
  refine ev_iconst (pc := 72) (v := 1) dX8_kitchen_72 (by decide) ?_
  refine ev_iadd (pc := 73) dX8_kitchen_73 ?_
  rw [nI_s1]
  refine ev_putI (pc := 74) dX8_kitchen_74 fl_X8_104 (by decide) (by decide) (by decide) ?_
  refine ev_goto (pc := 77) (tgt := 49) dX8_kitchen_77 (by decide) ?_
  exact K ρ hM
theorem l_X8_kitchen {S : Scr} {A : Abs} (σ : Sto) (h : RM A σ) (hx : txT (aT A).2 (aT A).1 σ) : ∀ k a nb pt L P it y τ, (aT A).1 + 1 ≤ a + k → a ≤ (aT A).1 → nb ≤ 6 → mkI (aT A).2 (aT A).1 a nb pt L P it σ τ → (∀ o, prsR (aT A).2 (aT A).1 k a nb pt L P it o → prsR (aT A).2 (aT A).1 121 0 0 false (fun _ _ => 0) (fun _ => 0) 0 o) → Ev S RX8 cX8_kitchen 2 (some .int) 6 49 [.ref 117, y] [] τ (fun r ρ => ∃ v A', r = some (.int v) ∧ kitR A v A' ∧ RM A' ρ ∧ FrM σ ρ) := by
  generalize hf : (aT A).2 = f at hx
  generalize hn : (aT A).1 = n at hx
  have kr : ∀ v A' o, prsR f n 121 0 0 false (fun _ _ => 0) (fun _ => 0) 0 o → ((∃ it nb L P, o = .inl (it, nb, L, P) ∧ v = nI it ∧ A' = kitA A nb L P) ∨ ∃ z, o = .inr z ∧ v = -10 - nI z ∧ A' = A) → kitR A v A' := fun v A' o q1 q2 => ⟨121, o, by rw [hf, hn]; exact q1, q2⟩
  intro k
  induction k with
  | zero => intro a nb pt L P it y τ h1 h2; omega
  | succ k ih =>
    intro a nb pt L P it y τ h1 h2 h3 hI hR
    obtain ⟨i1, i2, i3, i4, i5, i6, i7, i8⟩ := hI
    have hτ : txT f n τ := hx.mv i1
    by_cases hs : skp f n a < n
    · refine b_X8_kitchen f n a nb h3 pt it y τ hτ i3 hs i2 i4 i5 i6 (fun ρ hM => ?_)
      obtain ⟨F, hM⟩ := hM
      have hge := skp_ge (f := f) (n := n) (a := a)
      rcases hM with ⟨m1, m2, m3, m4, m5, m6, m7, m8, m9⟩ | ⟨m1, m2, m3, m4, m5, m6, m7, m8⟩ | ⟨m1, z, m2, m3⟩
      · have hp := psn_ge (f := f) (n := n) (a := skp f n a + 1) 6
        have hq := rowOk_lt m3
        refine ih (psn f n (skp f n a + 1) 6 + 1) (nb + 1) pt (updL L nb (rowV f n (skp f n a + 1))) P (it + 1) _ _ (by omega) (by omega) (by omega) ⟨mls_w' (i1.tr F.mls) (by decide), ?_, m4.mv (fun j j1 j2 => by rw [wr_nj (by omega)]), by rw [wr_at], ?_, ?_, fun b hb k hk => ?_, fun k hk => ?_⟩ (fun o ho => hR o ?_)
        · rw [wr_nj (by decide)]; exact m1
        · rw [wr_nj (by decide)]; exact m5
        · rw [wr_nj (by decide), m6]; exact i6
        · rw [wr_ne (by decide)]
          show _ = if b = nb then _ else _
          by_cases q : b = nb
          · subst q
            rw [if_pos rfl]; exact m8 k hk
          · rw [if_neg q, m7 _ (by omega)]; exact i7 b (by omega) k hk
        · rw [wr_ne (by decide), m9]; exact i8 k hk
        · rw [prsR]; exact Or.inr (Or.inl ⟨hs, m2, Or.inl ⟨m3, ho⟩⟩)
      · have hp := psn_ge (f := f) (n := n) (a := skp f n a + 1) 4
        have hq := rowOk_lt m3
        refine ih (psn f n (skp f n a + 1) 4 + 1) nb true L (rowV f n (skp f n a + 1)) (it + 1) _ _ (by omega) (by omega) h3 ⟨mls_w' (i1.tr F.mls) (by decide), ?_, m4.mv (fun j j1 j2 => by rw [wr_nj (by omega)]), by rw [wr_at], ?_, ?_, fun b hb k hk => ?_, fun k hk => ?_⟩ (fun o ho => hR o ?_)
        · rw [wr_nj (by decide)]; exact m1
        · rw [wr_nj (by decide), m5]; exact i5
        · rw [wr_nj (by decide), m6]; rfl
        · rw [wr_ne (by decide), m7]; exact i7 b hb k hk
        · rw [wr_ne (by decide)]; exact m8 k hk
        · rw [prsR]; exact Or.inr (Or.inr (Or.inl ⟨hs, m2, Or.inl ⟨m3, ho⟩⟩))
      · have F2 : Mls σ (wr ρ 117 19 (nI (it + 1))) := mls_w' (i1.tr F.mls) (by decide)
        refine z_X8_kitchen _ _ (by rw [wr_nj (by decide)]; exact m1) ⟨-10 - nI z, A, by rw [wr_nj (by decide), m2], kr _ _ (.inr z) (hR _ ?_) (Or.inr ⟨z, rfl, rfl, rfl⟩), h.mv F2, F2.fr⟩
        rw [prsR]
        rcases m3 with ⟨x1, x2⟩ | ⟨x1, x2⟩ | ⟨x1, x2, x3⟩
        · exact Or.inr (Or.inl ⟨hs, x1, Or.inr ⟨z, x2, rfl⟩⟩)
        · exact Or.inr (Or.inr (Or.inl ⟨hs, x1, Or.inr ⟨z, x2, rfl⟩⟩))
        · exact Or.inr (Or.inr (Or.inr ⟨hs, x1, x2, by rw [x3]⟩))
    · refine k_X8_kitchen nb h3 y τ ((tok0 i3).mpr hs) i2 i5 (fun ρ hS => ?_)
      have pr : prsR f n 121 0 0 false (fun _ _ => 0) (fun _ => 0) 0 (.inl (it, nb, L, P)) := hR _ (by rw [prsR]; exact Or.inl ⟨by omega, rfl⟩)
      obtain ⟨o1, o2, o3⟩ := prs_ok 121 0 0 false _ _ 0 it nb L P pr (by decide) (fun b hb => absurd hb (Nat.not_lt_zero b)) (fun p hp => ⟨0, by decide, rfl⟩)
      obtain ⟨r1, r2⟩ := h.kit i1 o1 o2 o3 i7 i8 hS
      exact ⟨nI it, kitA A nb L P, by rw [i4], kr _ _ _ pr (Or.inl ⟨it, nb, L, P, rfl, rfl, rfl⟩), r1, r2⟩
set_option maxRecDepth 100000 in
theorem m_X8_kitchen {S : Scr} {A : Abs} (σ : Sto) (h : RM A σ) (hx : txT (aT A).2 (aT A).1 σ) : Mt S yX8_kitchen cX8_kitchen 2 (some .int) 6 [.ref 117] σ (fun r ρ => ∃ v A', r = some (.int v) ∧ kitR A v A' ∧ RM A' ρ ∧ FrM σ ρ) := by
  refine mt_of (ls := [.ref 117, .null]) (by decide) rfl (Nat.le_of_ble_eq_true rfl) (by simp [Value.category]) ?_
  refine ev_aload_n_0 (pc := 0) dX8_kitchen_0 ?_
  refine ev_iconst (pc := 1) (v := 0) dX8_kitchen_1 (by decide) ?_
  refine ev_putI (pc := 2) dX8_kitchen_2 fl_X8_61 (by decide) (by decide) (by decide) ?_
  refine ev_aload_n_0 (pc := 5) dX8_kitchen_5 ?_
  refine ev_iconst (pc := 6) (v := 0) dX8_kitchen_6 (by decide) ?_
  refine ev_putZ (pc := 7) dX8_kitchen_7 fl_X8_81 (by decide) (by decide) (by decide) (by decide) ?_
  refine ev_aload_n_0 (pc := 10) dX8_kitchen_10 ?_
  refine ev_iconst (pc := 11) (v := 0) dX8_kitchen_11 (by decide) ?_
  refine ev_putI (pc := 12) dX8_kitchen_12 fl_X8_104 (by decide) (by decide) (by decide) ?_
  refine ev_aload_n_0 (pc := 15) dX8_kitchen_15 ?_
  refine ev_iconst (pc := 16) (v := 0) dX8_kitchen_16 (by decide) ?_
  refine ev_putI (pc := 17) dX8_kitchen_17 fl_X8_88 (by decide) (by decide) (by decide) ?_
  refine ev_aload_n_0 (pc := 20) dX8_kitchen_20 ?_
  refine ev_iconst (pc := 21) (v := 0) dX8_kitchen_21 (by decide) ?_
  refine ev_putZ (pc := 22) dX8_kitchen_22 fl_X8_95 (by decide) (by decide) (by decide) (by decide) ?_
  refine ev_iconst (pc := 25) (v := 0) dX8_kitchen_25 (by decide) ?_
  refine ev_istore_n_1 (pc := 26) dX8_kitchen_26 (by decide) ?_
  refine ev_iload_n_1 (pc := 27) dX8_kitchen_27 ?_
  refine ev_iconst (pc := 28) (v := 4) dX8_kitchen_28 (by decide) ?_
  refine ev_icmp_ge (pc := 29) (tgt := 45) dX8_kitchen_29 (by decide) (fun h29 => by exact absurd h29 (by decide)) (fun h29 => ?_)
  refine ev_aload_n_0 (pc := 32) dX8_kitchen_32 ?_
  refine ev_getR (pc := 33) (r := 128) dX8_kitchen_33 fl_X8_41 (by decide) (by decide) (by decide) (by decide) ?_
  refine ev_iload_n_1 (pc := 36) dX8_kitchen_36 ?_
  refine ev_iconst (pc := 37) (v := 0) dX8_kitchen_37 (by decide) ?_
  refine ev_iastore' (pc := 38) (j := 0) dX8_kitchen_38 (by decide) (by decide) (show vp_in _ 4 from (vin_c (by decide))) (by decide) ?_
  refine ev_iinc_1 (pc := 39) (v := 1) dX8_kitchen_39 (by decide) (by decide) ?_
  refine ev_goto (pc := 42) (tgt := 27) dX8_kitchen_42 (by decide) ?_
  refine ev_iload_n_1 (pc := 27) dX8_kitchen_27 ?_
  refine ev_iconst (pc := 28) (v := 4) dX8_kitchen_28 (by decide) ?_
  refine ev_icmp_ge (pc := 29) (tgt := 45) dX8_kitchen_29 (by decide) (fun h29 => by exact absurd h29 (by decide)) (fun h29 => ?_)
  refine ev_aload_n_0 (pc := 32) dX8_kitchen_32 ?_
  refine ev_getR (pc := 33) (r := 128) dX8_kitchen_33 fl_X8_41 (by decide) (by decide) (by decide) (by decide) ?_
  refine ev_iload_n_1 (pc := 36) dX8_kitchen_36 ?_
  refine ev_iconst (pc := 37) (v := 0) dX8_kitchen_37 (by decide) ?_
  refine ev_iastore' (pc := 38) (j := 1) dX8_kitchen_38 (by decide) (by decide) (show vp_in _ 4 from (vin_c (by decide))) (by decide) ?_
  refine ev_iinc_1 (pc := 39) (v := 2) dX8_kitchen_39 (by decide) (by decide) ?_
  refine ev_goto (pc := 42) (tgt := 27) dX8_kitchen_42 (by decide) ?_
  refine ev_iload_n_1 (pc := 27) dX8_kitchen_27 ?_
  refine ev_iconst (pc := 28) (v := 4) dX8_kitchen_28 (by decide) ?_
  refine ev_icmp_ge (pc := 29) (tgt := 45) dX8_kitchen_29 (by decide) (fun h29 => by exact absurd h29 (by decide)) (fun h29 => ?_)
  refine ev_aload_n_0 (pc := 32) dX8_kitchen_32 ?_
  refine ev_getR (pc := 33) (r := 128) dX8_kitchen_33 fl_X8_41 (by decide) (by decide) (by decide) (by decide) ?_
  refine ev_iload_n_1 (pc := 36) dX8_kitchen_36 ?_
  refine ev_iconst (pc := 37) (v := 0) dX8_kitchen_37 (by decide) ?_
  refine ev_iastore' (pc := 38) (j := 2) dX8_kitchen_38 (by decide) (by decide) (show vp_in _ 4 from (vin_c (by decide))) (by decide) ?_
  refine ev_iinc_1 (pc := 39) (v := 3) dX8_kitchen_39 (by decide) (by decide) ?_
  refine ev_goto (pc := 42) (tgt := 27) dX8_kitchen_42 (by decide) ?_
  refine ev_iload_n_1 (pc := 27) dX8_kitchen_27 ?_
  refine ev_iconst (pc := 28) (v := 4) dX8_kitchen_28 (by decide) ?_
  refine ev_icmp_ge (pc := 29) (tgt := 45) dX8_kitchen_29 (by decide) (fun h29 => by exact absurd h29 (by decide)) (fun h29 => ?_)
  refine ev_aload_n_0 (pc := 32) dX8_kitchen_32 ?_
  refine ev_getR (pc := 33) (r := 128) dX8_kitchen_33 fl_X8_41 (by decide) (by decide) (by decide) (by decide) ?_
  refine ev_iload_n_1 (pc := 36) dX8_kitchen_36 ?_
  refine ev_iconst (pc := 37) (v := 0) dX8_kitchen_37 (by decide) ?_
  refine ev_iastore' (pc := 38) (j := 3) dX8_kitchen_38 (by decide) (by decide) (show vp_in _ 4 from (vin_c (by decide))) (by decide) ?_
  refine ev_iinc_1 (pc := 39) (v := 4) dX8_kitchen_39 (by decide) (by decide) ?_
  refine ev_goto (pc := 42) (tgt := 27) dX8_kitchen_42 (by decide) ?_
  refine ev_iload_n_1 (pc := 27) dX8_kitchen_27 ?_
  refine ev_iconst (pc := 28) (v := 4) dX8_kitchen_28 (by decide) ?_
  refine ev_icmp_ge (pc := 29) (tgt := 45) dX8_kitchen_29 (by decide) (fun h29 => ?_) (fun h29 => by exact absurd h29 (by decide))
  have hS : Mls σ (wr (wr (wr (wr (wr (wr (wr (wr (wr σ 117 14 0) 117 18 0) 117 19 0) 117 20 0) 117 22 0) 128 0 0) 128 1 0) 128 2 0) 128 3 0) := ⟨rfl, fun c hc => by rw [wr_ne (by omega), wr_ne (by omega), wr_ne (by omega), wr_ne (by omega), wr_ne (by omega), wr_ne (by omega), wr_ne (by omega), wr_ne (by omega), wr_ne (by omega)], fun c h1 h2 => by rw [wr_ne (by omega), wr_ne (by omega), wr_ne (by omega), wr_ne (by omega), wr_ne (by omega), wr_ne (by omega), wr_ne (by omega), wr_ne (by omega), wr_ne (by omega)], fun j hj => by rw [wr_ne (by decide), wr_ne (by decide), wr_ne (by decide), wr_ne (by decide), wr_nj (by omega), wr_nj (by omega), wr_nj (by omega), wr_nj (by omega), wr_nj (by omega)]⟩
  refine ev_aload_n_0 (pc := 45) dX8_kitchen_45 ?_
  refine ev_callV (pc := 46) dX8_kitchen_46 ml_X8_85 (m_X8_next (aT A).2 (aT A).1 0 (Nat.zero_le _) _ (hx.mv hS) (by rw [wr_ne (by decide), wr_ne (by decide), wr_ne (by decide), wr_ne (by decide), wr_nj (by decide), wr_nj (by decide), wr_nj (by decide), wr_nj (by decide), wr_at]; rfl)) (by decide) ⟨_, rfl, rfl⟩ rfl (by decide) rfl (Nat.le_of_ble_eq_true rfl) ?_
  rintro r τ ⟨rfl, hP⟩
  exact l_X8_kitchen σ h hx 121 0 0 false (fun _ _ => 0) (fun _ => 0) 0 _ τ (by have := hx.1; omega) (Nat.zero_le _) (by decide) ⟨hS.tr hP.1.mls, (by rw [hP.1.2.2 18 (by decide), wr_ne (by decide), wr_ne (by decide), wr_ne (by decide), wr_ne (by decide), wr_nj (by decide), wr_nj (by decide), wr_nj (by decide), wr_at]), hP.T, (by rw [hP.1.2.2 19 (by decide), wr_ne (by decide), wr_ne (by decide), wr_ne (by decide), wr_ne (by decide), wr_nj (by decide), wr_nj (by decide), wr_at]; rfl), (by rw [hP.1.2.2 20 (by decide), wr_ne (by decide), wr_ne (by decide), wr_ne (by decide), wr_ne (by decide), wr_nj (by decide), wr_at]; rfl), (by rw [hP.1.2.2 22 (by decide), wr_ne (by decide), wr_ne (by decide), wr_ne (by decide), wr_ne (by decide), wr_at]; rfl), fun b hb => absurd hb (Nat.not_lt_zero b), fun k hk => by
    rw [hP.1.2.1 128 (by decide)]
    rcases (show k = 0 ∨ k = 1 ∨ k = 2 ∨ k = 3 by omega) with rfl | rfl | rfl | rfl
    · rw [wr_nj (by decide), wr_nj (by decide), wr_nj (by decide)]; exact wr_at
    · rw [wr_nj (by decide), wr_nj (by decide)]; exact wr_at
    · rw [wr_nj (by decide)]; exact wr_at
    · exact wr_at⟩ (fun o ho => ho)
