/-! ===== the reference: an item ===== -/
/-- nothing but the reader's own -/
def riF (σ τ : Sto) : Prop := τ.2 = σ.2 ∧ (∀ k, k ≠ 117 → k ≠ 127 → k ≠ 128 → τ.1 k = σ.1 k) ∧ ∀ j, (j < 14 ∨ j = 19 ∨ 22 < j) → τ.1 117 j = σ.1 117 j
theorem riF.rf (σ : Sto) : riF σ σ := ⟨rfl, fun _ _ _ _ => rfl, fun _ _ => rfl⟩
theorem riF.tr {a b c : Sto} (h : riF a b) (g : riF b c) : riF a c := ⟨g.1.trans h.1, fun k h1 h2 h3 => (g.2.1 k h1 h2 h3).trans (h.2.1 k h1 h2 h3), fun j hj => (g.2.2 j hj).trans (h.2.2 j hj)⟩
theorem riF.w {σ : Sto} {j : Nat} {x : Int32} (h : 14 ≤ j ∧ j ≤ 22 ∧ j ≠ 19) : riF σ (wr σ 117 j x) := ⟨rfl, fun k h1 _ _ => wr_ne h1, fun i hi => wr_nj (by omega)⟩
theorem riF.mls {σ τ : Sto} (h : riF σ τ) : Mls σ τ := ⟨h.1, fun c hc => h.2.1 c (by omega) (by omega) (by omega), fun c h1 h2 => h.2.1 c (by omega) (by omega) (by omega), fun j hj => h.2.2 j (by omega)⟩
theorem nxF.ri {σ τ : Sto} (h : nxF σ τ) : riF σ τ := ⟨h.1, fun k h1 _ _ => h.2.1 k h1, fun j hj => h.2.2 j (by omega)⟩
theorem rwF.ri {w : Nat} (hw : w = 127 ∨ w = 128) {σ τ : Sto} (h : rwF w σ τ) : riF σ τ := ⟨h.1, fun k h1 h2 h3 => h.2.1 k h1 (by omega), fun j hj => h.2.2 j (by omega)⟩
def riM (f : Nat → Int32) (n s nb : Nat) (pt : Bool) (σ τ : Sto) : Prop := riF σ τ ∧
 ((τ.1 117 18 = 0 ∧ (f s = 98 ∧ nb < 6) ∧ rowOk f n (s + 1) 6 ∧ nxT f n (psn f n (s + 1) 6 + 1) τ ∧ τ.1 117 20 = nI (nb + 1) ∧ τ.1 117 22 = σ.1 117 22 ∧ (∀ j, j < 6 * nb → τ.1 127 j = σ.1 127 j) ∧ (∀ k, k < 6 → τ.1 127 (6 * nb + k) = rowV f n (s + 1) k) ∧ τ.1 128 = σ.1 128) ∨
  (τ.1 117 18 = 0 ∧ (f s = 112 ∧ pt = false) ∧ rowOk f n (s + 1) 4 ∧ nxT f n (psn f n (s + 1) 4 + 1) τ ∧ τ.1 117 20 = σ.1 117 20 ∧ τ.1 117 22 = 1 ∧ τ.1 127 = σ.1 127 ∧ ∀ k, k < 4 → τ.1 128 k = rowV f n (s + 1) k) ∨
  (τ.1 117 18 = 1 ∧ ∃ z, τ.1 117 15 = nI z ∧ (((f s = 98 ∧ nb < 6) ∧ rowBad f n (s + 1) 6 z) ∨ ((f s = 112 ∧ pt = false) ∧ rowBad f n (s + 1) 4 z) ∨ (¬ (f s = 98 ∧ nb < 6) ∧ ¬ (f s = 112 ∧ pt = false) ∧ z = s))))
theorem isd_ne {f : Nat → Int32} {n s : Nat} (h : isd f n s) : f s ≠ 98 ∧ f s ≠ 112 ∧ f s ≠ 59 := by
  obtain ⟨w, hw, e⟩ := fig h
  rw [e]
  exact ⟨fun z => by have := nI_inj (b := 98) z (by omega) (by decide); omega, fun z => by have := nI_inj (b := 112) z (by omega) (by decide); omega, fun z => by have := nI_inj (b := 59) z (by omega) (by decide); omega⟩
theorem it_tok {f : Nat → Int32} {n c : Nat} {τ : Sto} (h : nxT f n c τ) (hs : skp f n c < n) : (τ.1 117 16 = 1 ∧ τ.1 117 17 = f (skp f n c) ∧ (f (skp f n c) = 98 ∨ f (skp f n c) = 112) ∧ τ.1 117 14 = nI (skp f n c + 1)) ∨ (τ.1 117 16 ≠ 1 ∧ f (skp f n c) ≠ 98 ∧ f (skp f n c) ≠ 112) := by
  rcases h.2 with z | z | z | z
  · exact absurd hs z.1
  · exact Or.inr ⟨by rw [z.2.2.1]; decide, (isd_ne z.1).1, (isd_ne z.1).2.1⟩
  · refine Or.inr ⟨?_, (isd_ne z.1).1, (isd_ne z.1).2.1⟩
    rcases z.2.2 with y | y
    · rw [y]; decide
    · rw [y.1]; decide
  · by_cases y : f (skp f n c) = 98 ∨ f (skp f n c) = 112
    · exact Or.inl ⟨by rw [z.2.2.1, tokC, if_pos y], z.2.2.2.1, y, z.2.2.2.2⟩
    · refine Or.inr ⟨?_, fun x => y (Or.inl x), fun x => y (Or.inr x)⟩
      rw [z.2.2.1, tokC, if_neg y]; split <;> decide
theorem st_tok {f : Nat → Int32} {n c : Nat} {τ : Sto} (h : nxT f n c τ) : (τ.1 117 16 = 3 ∧ atC f n (skp f n c) 59 ∧ τ.1 117 14 = nI (skp f n c + 1)) ∨ (τ.1 117 16 ≠ 3 ∧ ¬ atC f n (skp f n c) 59) := by
  rcases h.2 with z | z | z | z
  · exact Or.inr ⟨by rw [z.2]; decide, fun y => z.1 y.1⟩
  · exact Or.inr ⟨by rw [z.2.2.1]; decide, fun y => (isd_ne z.1).2.2 y.2⟩
  · refine Or.inr ⟨?_, fun y => (isd_ne z.1).2.2 y.2⟩
    rcases z.2.2 with y | y
    · rw [y]; decide
    · rw [y.1]; decide
  · by_cases y : f (skp f n c) = 59
    · exact Or.inl ⟨by rw [z.2.2.1, y]; decide, ⟨z.1, y⟩, z.2.2.2.2⟩
    · refine Or.inr ⟨?_, fun x => y x.2⟩
      rw [z.2.2.1, tokC]; split
      · decide
      · decide
set_option maxRecDepth 100000 in
theorem t_X8_readItem {S : Scr} (f : Nat → Int32) (n c : Nat) (x y : Value) (σ : Sto) {Q : Option Value → Sto → Prop} (h : txT f n σ) (hT : nxT f n c σ) (K1 : ¬ σ.1 117 18 = 0 → Q none (wr σ 117 18 1)) (K2 : σ.1 117 18 = 0 → ¬ atC f n (skp f n c) 59 → Q none (wr σ 117 18 1)) (K3 : σ.1 117 18 = 0 → atC f n (skp f n c) 59 → ∀ τ, nxP f n (skp f n c + 1) (wr σ 117 18 0) τ → Q none τ) : Ev S RX8 cX8_readItem 3 none 5 80 [.ref 117, x, y] [] σ (Q) := by
  have hk := st_tok hT
  have h0 : txT f n (wr σ 117 18 0) := h.mv (mls_w (by decide))
  refine ev_aload_n_0 (pc := 80) dX8_readItem_80 ?_
  refine ev_aload_n_0 (pc := 81) dX8_readItem_81 ?_
  refine ev_getI (pc := 82) dX8_readItem_82 fl_X8_81 (by decide) (by decide) (by decide) ?_
  refine ev_if_ne (pc := 85) (tgt := 96) dX8_readItem_85 (by decide) (fun h85 => ?_) (fun h85 => ?_)
  · skip
    refine ev_iconst (pc := 96) (v := 1) dX8_readItem_96 (by decide) ?_
    refine ev_goto (pc := 97) (tgt := 101) dX8_readItem_97 (by decide) ?_
    refine ev_putZ (pc := 101) dX8_readItem_101 fl_X8_81 (by decide) (by decide) (by decide) (by decide) ?_
    refine ev_aload_n_0 (pc := 104) dX8_readItem_104 ?_
    refine ev_getI (pc := 105) dX8_readItem_105 fl_X8_81 (by decide) (by decide) (by decide) ?_
    rw [wr_at]
    refine ev_if_ne (pc := 108) (tgt := 115) dX8_readItem_108 (by decide) (fun h108 => ?_) (fun h108 => ?_)
    · skip
      exact ev_return (pc := 115) dX8_readItem_115 rfl (K1 h85)
    · skip
      exact absurd h108 (by decide)
  · skip
    refine ev_aload_n_0 (pc := 88) dX8_readItem_88 ?_
    refine ev_getI (pc := 89) dX8_readItem_89 fl_X8_74 (by decide) (by decide) (by decide) ?_
    refine ev_iconst (pc := 92) (v := 3) dX8_readItem_92 (by decide) ?_
    refine ev_icmp_eq (pc := 93) (tgt := 100) dX8_readItem_93 (by decide) (fun h93 => ?_) (fun h93 => ?_)
    · skip
      refine ev_iconst (pc := 100) (v := 0) dX8_readItem_100 (by decide) ?_
      refine ev_putZ (pc := 101) dX8_readItem_101 fl_X8_81 (by decide) (by decide) (by decide) (by decide) ?_
      refine ev_aload_n_0 (pc := 104) dX8_readItem_104 ?_
      refine ev_getI (pc := 105) dX8_readItem_105 fl_X8_81 (by decide) (by decide) (by decide) ?_
      rw [wr_at]
      refine ev_if_ne (pc := 108) (tgt := 115) dX8_readItem_108 (by decide) (fun h108 => ?_) (fun h108 => ?_)
      · skip
        exact ev_return (pc := 115) dX8_readItem_115 rfl (absurd rfl h108)
      · skip
        have hq : σ.1 117 16 = 3 ∧ atC f n (skp f n c) 59 ∧ σ.1 117 14 = nI (skp f n c + 1) := by rcases hk with y | y; exact y; exact absurd h93 y.1
        refine ev_aload_n_0 (pc := 111) dX8_readItem_111 ?_
        refine ev_callV (pc := 112) dX8_readItem_112 ml_X8_85 (m_X8_next f n (skp f n c + 1) hq.2.1.1 _ h0 (by rw [wr_nj (by decide)]; exact hq.2.2)) (by decide) ⟨_, rfl, rfl⟩ rfl (by decide) rfl (Nat.le_of_ble_eq_true rfl) ?_
        rintro r τ ⟨rfl, hP⟩
        exact ev_return (pc := 115) dX8_readItem_115 rfl (K3 h85 hq.2.1 τ hP)
    · skip
      refine ev_iconst (pc := 96) (v := 1) dX8_readItem_96 (by decide) ?_
      refine ev_goto (pc := 97) (tgt := 101) dX8_readItem_97 (by decide) ?_
      refine ev_putZ (pc := 101) dX8_readItem_101 fl_X8_81 (by decide) (by decide) (by decide) (by decide) ?_
      refine ev_aload_n_0 (pc := 104) dX8_readItem_104 ?_
      refine ev_getI (pc := 105) dX8_readItem_105 fl_X8_81 (by decide) (by decide) (by decide) ?_
      rw [wr_at]
      refine ev_if_ne (pc := 108) (tgt := 115) dX8_readItem_108 (by decide) (fun h108 => ?_) (fun h108 => ?_)
      · skip
        exact ev_return (pc := 115) dX8_readItem_115 rfl (K2 h85 (fun z => h93 (by rcases hk with y | y; exact y.1; exact absurd z y.2)))
      · skip
        exact absurd h108 (by decide)
set_option maxRecDepth 100000 in
theorem r0_X8_readItem {S : Scr}  (σ : Sto) (hk : σ.1 117 16 ≠ 1) : Mt S yX8_readItem cX8_readItem 3 none 5 [.ref 117] σ (Is none (wr σ 117 18 1)) := by
  refine mt_of (ls := [.ref 117, .null, .null]) (by decide) rfl (Nat.le_of_ble_eq_true rfl) (by simp [Value.category]) ?_
  refine ev_aload_n_0 (pc := 0) dX8_readItem_0 ?_
  refine ev_getI (pc := 1) dX8_readItem_1 fl_X8_71 (by decide) (by decide) (by decide) ?_
  refine ev_istore_n_1 (pc := 4) dX8_readItem_4 (by decide) ?_
  refine ev_iload_n_1 (pc := 5) dX8_readItem_5 ?_
  refine ev_bipush (pc := 6) (v := 98) dX8_readItem_6 (by decide) ?_
  refine ev_icmp_ne (pc := 8) (tgt := 28) dX8_readItem_8 (by decide) (fun h8 => ?_) (fun h8 => ?_)
  · skip
    refine ev_aload_n_0 (pc := 28) dX8_readItem_28 ?_
    refine ev_getI (pc := 29) dX8_readItem_29 fl_X8_95 (by decide) (by decide) (by decide) ?_
    refine ev_if_ne (pc := 32) (tgt := 39) dX8_readItem_32 (by decide) (fun h32 => ?_) (fun h32 => ?_)
    · skip
      refine ev_iconst (pc := 39) (v := 0) dX8_readItem_39 (by decide) ?_
      refine ev_istore_n_2 (pc := 40) dX8_readItem_40 (by decide) ?_
      refine ev_aload_n_0 (pc := 41) dX8_readItem_41 ?_
      refine ev_getI (pc := 42) dX8_readItem_42 fl_X8_74 (by decide) (by decide) (by decide) ?_
      refine ev_iconst (pc := 45) (v := 1) dX8_readItem_45 (by decide) ?_
      refine ev_icmp_ne (pc := 46) (tgt := 53) dX8_readItem_46 (by decide) (fun h46 => ?_) (fun h46 => by exact absurd h46 hk)
      refine ev_aload_n_0 (pc := 53) dX8_readItem_53 ?_
      refine ev_iconst (pc := 54) (v := 1) dX8_readItem_54 (by decide) ?_
      refine ev_putZ (pc := 55) dX8_readItem_55 fl_X8_81 (by decide) (by decide) (by decide) (by decide) ?_
      exact ev_return (pc := 58) dX8_readItem_58 rfl (⟨rfl, rfl⟩)
    · skip
      refine ev_iconst (pc := 35) (v := 1) dX8_readItem_35 (by decide) ?_
      refine ev_goto (pc := 36) (tgt := 40) dX8_readItem_36 (by decide) ?_
      refine ev_istore_n_2 (pc := 40) dX8_readItem_40 (by decide) ?_
      refine ev_aload_n_0 (pc := 41) dX8_readItem_41 ?_
      refine ev_getI (pc := 42) dX8_readItem_42 fl_X8_74 (by decide) (by decide) (by decide) ?_
      refine ev_iconst (pc := 45) (v := 1) dX8_readItem_45 (by decide) ?_
      refine ev_icmp_ne (pc := 46) (tgt := 53) dX8_readItem_46 (by decide) (fun h46 => ?_) (fun h46 => by exact absurd h46 hk)
      refine ev_aload_n_0 (pc := 53) dX8_readItem_53 ?_
      refine ev_iconst (pc := 54) (v := 1) dX8_readItem_54 (by decide) ?_
      refine ev_putZ (pc := 55) dX8_readItem_55 fl_X8_81 (by decide) (by decide) (by decide) (by decide) ?_
      exact ev_return (pc := 58) dX8_readItem_58 rfl (⟨rfl, rfl⟩)
  · skip
    refine ev_aload_n_0 (pc := 11) dX8_readItem_11 ?_
    refine ev_getI (pc := 12) dX8_readItem_12 fl_X8_88 (by decide) (by decide) (by decide) ?_
    refine ev_bipush (pc := 15) (v := 6) dX8_readItem_15 (by decide) ?_
    refine ev_icmp_ge (pc := 17) (tgt := 24) dX8_readItem_17 (by decide) (fun h17 => ?_) (fun h17 => ?_)
    · skip
      refine ev_iconst (pc := 24) (v := 0) dX8_readItem_24 (by decide) ?_
      refine ev_goto (pc := 25) (tgt := 40) dX8_readItem_25 (by decide) ?_
      refine ev_istore_n_2 (pc := 40) dX8_readItem_40 (by decide) ?_
      refine ev_aload_n_0 (pc := 41) dX8_readItem_41 ?_
      refine ev_getI (pc := 42) dX8_readItem_42 fl_X8_74 (by decide) (by decide) (by decide) ?_
      refine ev_iconst (pc := 45) (v := 1) dX8_readItem_45 (by decide) ?_
      refine ev_icmp_ne (pc := 46) (tgt := 53) dX8_readItem_46 (by decide) (fun h46 => ?_) (fun h46 => by exact absurd h46 hk)
      refine ev_aload_n_0 (pc := 53) dX8_readItem_53 ?_
      refine ev_iconst (pc := 54) (v := 1) dX8_readItem_54 (by decide) ?_
      refine ev_putZ (pc := 55) dX8_readItem_55 fl_X8_81 (by decide) (by decide) (by decide) (by decide) ?_
      exact ev_return (pc := 58) dX8_readItem_58 rfl (⟨rfl, rfl⟩)
    · skip
      refine ev_iconst (pc := 20) (v := 1) dX8_readItem_20 (by decide) ?_
      refine ev_goto (pc := 21) (tgt := 40) dX8_readItem_21 (by decide) ?_
      refine ev_istore_n_2 (pc := 40) dX8_readItem_40 (by decide) ?_
      refine ev_aload_n_0 (pc := 41) dX8_readItem_41 ?_
      refine ev_getI (pc := 42) dX8_readItem_42 fl_X8_74 (by decide) (by decide) (by decide) ?_
      refine ev_iconst (pc := 45) (v := 1) dX8_readItem_45 (by decide) ?_
      refine ev_icmp_ne (pc := 46) (tgt := 53) dX8_readItem_46 (by decide) (fun h46 => ?_) (fun h46 => by exact absurd h46 hk)
      refine ev_aload_n_0 (pc := 53) dX8_readItem_53 ?_
      refine ev_iconst (pc := 54) (v := 1) dX8_readItem_54 (by decide) ?_
      refine ev_putZ (pc := 55) dX8_readItem_55 fl_X8_81 (by decide) (by decide) (by decide) (by decide) ?_
      exact ev_return (pc := 58) dX8_readItem_58 rfl (⟨rfl, rfl⟩)
theorem riM.bad0 {f : Nat → Int32} {n c nb : Nat} {pt : Bool} {σ : Sto} (hT : nxT f n c σ) (h1 : ¬ (f (skp f n c) = 98 ∧ nb < 6)) (h2 : ¬ (f (skp f n c) = 112 ∧ pt = false)) : riM f n (skp f n c) nb pt σ (wr σ 117 18 1) :=
  ⟨riF.w (by decide), Or.inr (Or.inr ⟨by rw [wr_at], skp f n c, by rw [wr_nj (by decide)]; exact hT.1, Or.inr (Or.inr ⟨h1, h2, rfl⟩)⟩)⟩
theorem rk0 {f : Nat → Int32} {n a w m : Nat} {τ : Sto} (hw : τ.1 117 18 = 0) (hT : nxT f n a τ) : rkS f n a w m 0 τ τ := ⟨rwF.rf w τ, fun _ _ => rfl, Or.inl ⟨hw, hT, fun i hi => absurd hi (Nat.not_lt_zero i), fun i hi => absurd hi (Nat.not_lt_zero i)⟩⟩
theorem rowBadN {f : Nat → Int32} {n a m j : Nat} (hj : j < m) (h1 : ∀ i, i < j → numOk f n (psn f n a i) (limI i)) (h2 : ¬ numOk f n (psn f n a j) (limI j)) : rowBad f n a m (psn f n a j) := ⟨j, by omega, rfl, h1, fun _ => h2, fun z => absurd z (by omega)⟩
theorem rowBadE {f : Nat → Int32} {n a m : Nat} (h1 : ∀ i, i < m → numOk f n (psn f n a i) (limI i)) (h2 : ¬ atC f n (psn f n a m) 59) : rowBad f n a m (psn f n a m) := ⟨m, by omega, rfl, h1, fun z => absurd z (by omega), fun _ => h2⟩
set_option maxRecDepth 100000 in
theorem r1_X8_readItem {S : Scr} (f : Nat → Int32) (n c nb : Nat) (hnb6 : nb ≤ 6) (pt : Bool) (σ : Sto) (h : txT f n σ) (hT : nxT f n c σ) (hs : skp f n c < n) (hw : σ.1 117 18 = 0) (hnb : σ.1 117 20 = nI nb) (hpt : σ.1 117 22 = if pt = true then 1 else 0) (hk : σ.1 117 16 = 1) (hcu : σ.1 117 14 = nI (skp f n c + 1)) (hnu : f (skp f n c) = 98) (hnm : σ.1 117 17 = 98) : Mt S yX8_readItem cX8_readItem 3 none 5 [.ref 117] σ (fun r τ => r = none ∧ riM f n (skp f n c) nb pt σ τ) := by
  refine mt_of (ls := [.ref 117, .null, .null]) (by decide) rfl (Nat.le_of_ble_eq_true rfl) (by simp [Value.category]) ?_
  refine ev_aload_n_0 (pc := 0) dX8_readItem_0 ?_
  refine ev_getI (pc := 1) dX8_readItem_1 fl_X8_71 (by decide) (by decide) (by decide) ?_
  rw [hnm]
  refine ev_istore_n_1 (pc := 4) dX8_readItem_4 (by decide) ?_
  refine ev_iload_n_1 (pc := 5) dX8_readItem_5 ?_
  refine ev_bipush (pc := 6) (v := 98) dX8_readItem_6 (by decide) ?_
  refine ev_icmp_ne (pc := 8) (tgt := 28) dX8_readItem_8 (by decide) (fun h8 => by exact absurd rfl h8) (fun h8 => ?_)
  refine ev_aload_n_0 (pc := 11) dX8_readItem_11 ?_
  refine ev_getI (pc := 12) dX8_readItem_12 fl_X8_88 (by decide) (by decide) (by decide) ?_
  rw [hnb]
  refine ev_bipush (pc := 15) (v := 6) dX8_readItem_15 (by decide) ?_
  refine ev_icmp_ge (pc := 17) (tgt := 24) dX8_readItem_17 (by decide) (fun h17 => ?_) (fun h17 => ?_)
  · skip
    refine ev_iconst (pc := 24) (v := 0) dX8_readItem_24 (by decide) ?_
    refine ev_goto (pc := 25) (tgt := 40) dX8_readItem_25 (by decide) ?_
    refine ev_istore_n_2 (pc := 40) dX8_readItem_40 (by decide) ?_
    refine ev_aload_n_0 (pc := 41) dX8_readItem_41 ?_
    refine ev_getI (pc := 42) dX8_readItem_42 fl_X8_74 (by decide) (by decide) (by decide) ?_
    rw [hk]
    refine ev_iconst (pc := 45) (v := 1) dX8_readItem_45 (by decide) ?_
    refine ev_icmp_ne (pc := 46) (tgt := 53) dX8_readItem_46 (by decide) (fun h46 => by exact absurd rfl h46) (fun h46 => ?_)
    refine ev_iload_n_2 (pc := 49) dX8_readItem_49 ?_
    refine ev_if_ne (pc := 50) (tgt := 59) dX8_readItem_50 (by decide) (fun h50 => by exact absurd h50 (by decide)) (fun h50 => ?_)
    refine ev_aload_n_0 (pc := 53) dX8_readItem_53 ?_
    refine ev_iconst (pc := 54) (v := 1) dX8_readItem_54 (by decide) ?_
    refine ev_putZ (pc := 55) dX8_readItem_55 fl_X8_81 (by decide) (by decide) (by decide) (by decide) ?_
    exact ev_return (pc := 58) dX8_readItem_58 rfl (⟨rfl, riM.bad0 hT (fun z => by have := ge120 (n := 6) (by decide) h17; omega) (fun z => absurd (hnu.symm.trans z.1) (by decide))⟩)
  · skip
    refine ev_iconst (pc := 20) (v := 1) dX8_readItem_20 (by decide) ?_
    refine ev_goto (pc := 21) (tgt := 40) dX8_readItem_21 (by decide) ?_
    refine ev_istore_n_2 (pc := 40) dX8_readItem_40 (by decide) ?_
    refine ev_aload_n_0 (pc := 41) dX8_readItem_41 ?_
    refine ev_getI (pc := 42) dX8_readItem_42 fl_X8_74 (by decide) (by decide) (by decide) ?_
    rw [hk]
    refine ev_iconst (pc := 45) (v := 1) dX8_readItem_45 (by decide) ?_
    refine ev_icmp_ne (pc := 46) (tgt := 53) dX8_readItem_46 (by decide) (fun h46 => by exact absurd rfl h46) (fun h46 => ?_)
    refine ev_iload_n_2 (pc := 49) dX8_readItem_49 ?_
    refine ev_if_ne (pc := 50) (tgt := 59) dX8_readItem_50 (by decide) (fun h50 => ?_) (fun h50 => by exact absurd h50 (by decide))
    have hb : nb < 6 := lt120 (n := 6) (by decide) h17 (by omega)
    refine ev_aload_n_0 (pc := 59) dX8_readItem_59 ?_
    refine ev_callV (pc := 60) dX8_readItem_60 ml_X8_85 (m_X8_next f n (skp f n c + 1) hs σ h hcu) (by decide) ⟨_, rfl, rfl⟩ rfl (by decide) rfl (Nat.le_of_ble_eq_true rfl) ?_
    rintro r τ ⟨rfl, hP⟩
    have hw' : τ.1 117 18 = 0 := (hP.1.2.2 18 (by decide)).trans hw
    have h' : txT f n τ := h.mv hP.1.mls
    have hn' : τ.1 117 20 = nI nb := (hP.1.2.2 20 (by decide)).trans hnb
    refine ev_iload_n_1 (pc := 63) dX8_readItem_63 ?_
    refine ev_bipush (pc := 64) (v := 98) dX8_readItem_64 (by decide) ?_
    refine ev_icmp_ne (pc := 66) (tgt := 76) dX8_readItem_66 (by decide) (fun h66 => by exact absurd rfl h66) (fun h66 => ?_)
    refine ev_aload_n_0 (pc := 69) dX8_readItem_69 ?_
    refine ev_callV (pc := 70) dX8_readItem_70 ml_X8_98 (m_X8_readBrother f n (skp f n c + 1) nb hb τ h' (rk0 hw' hP.T) hn') (by decide) ⟨_, rfl, rfl⟩ rfl (by decide) rfl (Nat.le_of_ble_eq_true rfl) ?_
    rintro r τ2 ⟨rfl, ρ, hR, rfl⟩
    refine ev_goto (pc := 73) (tgt := 80) dX8_readItem_73 (by decide) ?_
    have F1 : riF σ ρ := hP.1.ri.tr (hR.1.ri (Or.inl rfl))
    have F2 : riF σ (wr ρ 117 20 (nI (nb + 1))) := F1.tr (riF.w (by decide))
    have h2 : txT f n (wr ρ 117 20 (nI (nb + 1))) := h.mv F2.mls
    rcases hR.2.2 with ⟨c1, c2, c3, c4⟩ | ⟨c1, j, c2, c3, c4, c5⟩
    · refine t_X8_readItem f n (cuN f n (skp f n c + 1) 6) _ _ _ h2 (c2.mv (fun i h3 h4 => by rw [wr_nj (by omega)])) (fun z => absurd (by rw [wr_nj (by decide)]; exact c1) z) (fun z y => ?_) (fun z y τ' hP' => ?_)
      · rw [cuN_skp] at y
        exact ⟨rfl, F2.tr (riF.w (by decide)), Or.inr (Or.inr ⟨by rw [wr_at], _, by rw [wr_nj (by decide), wr_nj (by decide), c2.1, cuN_skp], Or.inl ⟨⟨hnu, hb⟩, rowBadE c3 y⟩⟩)⟩
      · rw [cuN_skp] at y hP'
        have F3 := F2.tr ((riF.w (by decide)).tr hP'.1.ri)
        refine ⟨rfl, F3, Or.inl ⟨?_, ⟨hnu, hb⟩, ⟨c3, y⟩, hP'.T, ?_, ?_, fun j hj => ?_, fun k hk6 => ?_, ?_⟩⟩
        · rw [hP'.1.2.2 18 (by decide), wr_at]
        · rw [hP'.1.2.2 20 (by decide), wr_nj (by decide), wr_at]
        · rw [hP'.1.2.2 22 (by decide), wr_nj (by decide), wr_nj (by decide), hR.1.2.2 22 (by decide), hP.1.2.2 22 (by decide)]
        · rw [hP'.1.2.1 127 (by decide), wr_ne (by decide), wr_ne (by decide), hR.2.1 j (by omega), hP.1.2.1 127 (by decide)]
        · rw [hP'.1.2.1 127 (by decide), wr_ne (by decide), wr_ne (by decide)]; exact c4 k hk6
        · rw [hP'.1.2.1 128 (by decide), wr_ne (by decide), wr_ne (by decide), hR.1.2.1 128 (by decide) (by decide), hP.1.2.1 128 (by decide)]
    · refine t_X8_readItem f n (cuN f n (skp f n c + 1) j) _ _ _ h2 (c3.mv (fun i h3 h4 => by rw [wr_nj (by omega)])) (fun z => ?_) (fun z => absurd (c1.symm.trans (show ρ.1 117 18 = 0 by rw [wr_nj (by decide)] at z; exact z)) (by decide)) (fun z => absurd (c1.symm.trans (show ρ.1 117 18 = 0 by rw [wr_nj (by decide)] at z; exact z)) (by decide))
      exact ⟨rfl, F2.tr (riF.w (by decide)), Or.inr (Or.inr ⟨by rw [wr_at], _, by rw [wr_nj (by decide), wr_nj (by decide), c3.1, cuN_skp], Or.inl ⟨⟨hnu, hb⟩, rowBadN c2 c4 c5⟩⟩)⟩
set_option maxRecDepth 100000 in
theorem r2_X8_readItem {S : Scr} (f : Nat → Int32) (n c nb : Nat) (hnb6 : nb ≤ 6) (pt : Bool) (σ : Sto) (h : txT f n σ) (hT : nxT f n c σ) (hs : skp f n c < n) (hw : σ.1 117 18 = 0) (hnb : σ.1 117 20 = nI nb) (hpt : σ.1 117 22 = if pt = true then 1 else 0) (hk : σ.1 117 16 = 1) (hcu : σ.1 117 14 = nI (skp f n c + 1)) (hnu : f (skp f n c) = 112) (hnm : σ.1 117 17 = 112) : Mt S yX8_readItem cX8_readItem 3 none 5 [.ref 117] σ (fun r τ => r = none ∧ riM f n (skp f n c) nb pt σ τ) := by
  refine mt_of (ls := [.ref 117, .null, .null]) (by decide) rfl (Nat.le_of_ble_eq_true rfl) (by simp [Value.category]) ?_
  refine ev_aload_n_0 (pc := 0) dX8_readItem_0 ?_
  refine ev_getI (pc := 1) dX8_readItem_1 fl_X8_71 (by decide) (by decide) (by decide) ?_
  rw [hnm]
  refine ev_istore_n_1 (pc := 4) dX8_readItem_4 (by decide) ?_
  refine ev_iload_n_1 (pc := 5) dX8_readItem_5 ?_
  refine ev_bipush (pc := 6) (v := 98) dX8_readItem_6 (by decide) ?_
  refine ev_icmp_ne (pc := 8) (tgt := 28) dX8_readItem_8 (by decide) (fun h8 => ?_) (fun h8 => by exact absurd h8 (by decide))
  refine ev_aload_n_0 (pc := 28) dX8_readItem_28 ?_
  refine ev_getI (pc := 29) dX8_readItem_29 fl_X8_95 (by decide) (by decide) (by decide) ?_
  rw [hpt]
  refine ev_if_ne (pc := 32) (tgt := 39) dX8_readItem_32 (by decide) (fun h32 => ?_) (fun h32 => ?_)
  · skip
    refine ev_iconst (pc := 39) (v := 0) dX8_readItem_39 (by decide) ?_
    refine ev_istore_n_2 (pc := 40) dX8_readItem_40 (by decide) ?_
    refine ev_aload_n_0 (pc := 41) dX8_readItem_41 ?_
    refine ev_getI (pc := 42) dX8_readItem_42 fl_X8_74 (by decide) (by decide) (by decide) ?_
    rw [hk]
    refine ev_iconst (pc := 45) (v := 1) dX8_readItem_45 (by decide) ?_
    refine ev_icmp_ne (pc := 46) (tgt := 53) dX8_readItem_46 (by decide) (fun h46 => by exact absurd rfl h46) (fun h46 => ?_)
    refine ev_iload_n_2 (pc := 49) dX8_readItem_49 ?_
    refine ev_if_ne (pc := 50) (tgt := 59) dX8_readItem_50 (by decide) (fun h50 => by exact absurd h50 (by decide)) (fun h50 => ?_)
    refine ev_aload_n_0 (pc := 53) dX8_readItem_53 ?_
    refine ev_iconst (pc := 54) (v := 1) dX8_readItem_54 (by decide) ?_
    refine ev_putZ (pc := 55) dX8_readItem_55 fl_X8_81 (by decide) (by decide) (by decide) (by decide) ?_
    exact ev_return (pc := 58) dX8_readItem_58 rfl (⟨rfl, riM.bad0 hT (fun z => absurd (hnu.symm.trans z.1) (by decide)) (fun z => h32 ((bool01 pt).mpr z.2))⟩)
  · skip
    refine ev_iconst (pc := 35) (v := 1) dX8_readItem_35 (by decide) ?_
    refine ev_goto (pc := 36) (tgt := 40) dX8_readItem_36 (by decide) ?_
    refine ev_istore_n_2 (pc := 40) dX8_readItem_40 (by decide) ?_
    refine ev_aload_n_0 (pc := 41) dX8_readItem_41 ?_
    refine ev_getI (pc := 42) dX8_readItem_42 fl_X8_74 (by decide) (by decide) (by decide) ?_
    rw [hk]
    refine ev_iconst (pc := 45) (v := 1) dX8_readItem_45 (by decide) ?_
    refine ev_icmp_ne (pc := 46) (tgt := 53) dX8_readItem_46 (by decide) (fun h46 => by exact absurd rfl h46) (fun h46 => ?_)
    refine ev_iload_n_2 (pc := 49) dX8_readItem_49 ?_
    refine ev_if_ne (pc := 50) (tgt := 59) dX8_readItem_50 (by decide) (fun h50 => ?_) (fun h50 => by exact absurd h50 (by decide))
    have hpf : pt = false := (bool01 pt).mp h32
    refine ev_aload_n_0 (pc := 59) dX8_readItem_59 ?_
    refine ev_callV (pc := 60) dX8_readItem_60 ml_X8_85 (m_X8_next f n (skp f n c + 1) hs σ h hcu) (by decide) ⟨_, rfl, rfl⟩ rfl (by decide) rfl (Nat.le_of_ble_eq_true rfl) ?_
    rintro r τ ⟨rfl, hP⟩
    have hw' : τ.1 117 18 = 0 := (hP.1.2.2 18 (by decide)).trans hw
    have h' : txT f n τ := h.mv hP.1.mls
    have hn' : τ.1 117 20 = nI nb := (hP.1.2.2 20 (by decide)).trans hnb
    refine ev_iload_n_1 (pc := 63) dX8_readItem_63 ?_
    refine ev_bipush (pc := 64) (v := 98) dX8_readItem_64 (by decide) ?_
    refine ev_icmp_ne (pc := 66) (tgt := 76) dX8_readItem_66 (by decide) (fun h66 => ?_) (fun h66 => by exact absurd h66 (by decide))
    refine ev_aload_n_0 (pc := 76) dX8_readItem_76 ?_
    refine ev_callV (pc := 77) dX8_readItem_77 ml_X8_101 (m_X8_readPot f n (skp f n c + 1) τ h' (rk0 (by rw [wr_nj (by decide)]; exact hw') (hP.T.mv (fun i h3 h4 => by rw [wr_nj (by omega)])))) (by decide) ⟨_, rfl, rfl⟩ rfl (by decide) rfl (Nat.le_of_ble_eq_true rfl) ?_
    rintro r ρ ⟨rfl, hR⟩
    have F0 : riF σ (wr τ 117 22 1) := hP.1.ri.tr (riF.w (by decide))
    have F2 : riF σ ρ := F0.tr (hR.1.ri (Or.inr rfl))
    have h2 : txT f n ρ := h.mv F2.mls
    rcases hR.2.2 with ⟨c1, c2, c3, c4⟩ | ⟨c1, j, c2, c3, c4, c5⟩
    · refine t_X8_readItem f n (cuN f n (skp f n c + 1) 4) _ _ _ h2 c2 (fun z => absurd c1 z) (fun z y => ?_) (fun z y τ' hP' => ?_)
      · rw [cuN_skp] at y
        exact ⟨rfl, F2.tr (riF.w (by decide)), Or.inr (Or.inr ⟨by rw [wr_at], _, by rw [wr_nj (by decide), c2.1, cuN_skp], Or.inr (Or.inl ⟨⟨hnu, hpf⟩, rowBadE c3 y⟩)⟩)⟩
      · rw [cuN_skp] at y hP'
        have F3 := F2.tr ((riF.w (by decide)).tr hP'.1.ri)
        refine ⟨rfl, F3, Or.inr (Or.inl ⟨?_, ⟨hnu, hpf⟩, ⟨c3, y⟩, hP'.T, ?_, ?_, ?_, fun k hk6 => ?_⟩)⟩
        · rw [hP'.1.2.2 18 (by decide), wr_at]
        · rw [hP'.1.2.2 20 (by decide), wr_nj (by decide), hR.1.2.2 20 (by decide), wr_nj (by decide), hP.1.2.2 20 (by decide)]
        · rw [hP'.1.2.2 22 (by decide), wr_nj (by decide), hR.1.2.2 22 (by decide), wr_at]
        · rw [hP'.1.2.1 127 (by decide), wr_ne (by decide), hR.1.2.1 127 (by decide) (by decide), wr_ne (by decide), hP.1.2.1 127 (by decide)]
        · rw [hP'.1.2.1 128 (by decide), wr_ne (by decide)]; have := c4 k hk6; rw [Nat.zero_add] at this; exact this
    · refine t_X8_readItem f n (cuN f n (skp f n c + 1) j) _ _ _ h2 c3 (fun z => ?_) (fun z => absurd (c1.symm.trans z) (by decide)) (fun z => absurd (c1.symm.trans z) (by decide))
      exact ⟨rfl, F2.tr (riF.w (by decide)), Or.inr (Or.inr ⟨by rw [wr_at], _, by rw [wr_nj (by decide), c3.1, cuN_skp], Or.inr (Or.inl ⟨⟨hnu, hpf⟩, rowBadN c2 c4 c5⟩)⟩)⟩
theorem m_X8_readItem {S : Scr} (f : Nat → Int32) (n c nb : Nat) (hnb6 : nb ≤ 6) (pt : Bool) (σ : Sto) (h : txT f n σ) (hT : nxT f n c σ) (hs : skp f n c < n) (hw : σ.1 117 18 = 0) (hnb : σ.1 117 20 = nI nb) (hpt : σ.1 117 22 = if pt = true then 1 else 0) : Mt S yX8_readItem cX8_readItem 3 none 5 [.ref 117] σ (fun r τ => r = none ∧ riM f n (skp f n c) nb pt σ τ) := by
  rcases it_tok hT hs with ⟨k1, k2, k3, k4⟩ | ⟨k1, k2, k3⟩
  · rcases k3 with k3 | k3
    · exact r1_X8_readItem f n c nb hnb6 pt σ h hT hs hw hnb hpt k1 k4 k3 (k2.trans k3)
    · exact r2_X8_readItem f n c nb hnb6 pt σ h hT hs hw hnb hpt k1 k4 k3 (k2.trans k3)
  · refine mt_post (r0_X8_readItem σ k1) (fun r τ q => ?_)
    obtain ⟨rfl, rfl⟩ := q
    exact ⟨rfl, riM.bad0 hT (fun z => k2 z.1) (fun z => k3 z.1)⟩
