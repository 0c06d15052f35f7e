/-! ===== items ===== -/
abbrev POut : Type := (Nat × Nat × (Nat → Nat → Int32) × (Nat → Int32)) ⊕ Nat
abbrev rowV (f : Nat → Int32) (n a : Nat) : Nat → Int32 := fun k => dgt f n (psn f n a k)
abbrev updL (L : Nat → Nat → Int32) (b : Nat) (v : Nat → Int32) : Nat → Nat → Int32 := fun c k => if c = b then v k else L c k
def prsR (f : Nat → Int32) (n : Nat) : Nat → Nat → Nat → Bool → (Nat → Nat → Int32) → (Nat → Int32) → Nat → POut → Prop
  | 0, _, _, _, _, _, _, _ => False
  | k + 1, a, nb, pt, L, P, it, o =>
    (n ≤ skp f n a ∧ o = .inl (it, nb, L, P)) ∨
    (skp f n a < n ∧ (f (skp f n a) = 98 ∧ nb < 6) ∧ ((rowOk f n (skp f n a + 1) 6 ∧ prsR f n k (psn f n (skp f n a + 1) 6 + 1) (nb + 1) pt (updL L nb (rowV f n (skp f n a + 1))) P (it + 1) o) ∨ ∃ z, rowBad f n (skp f n a + 1) 6 z ∧ o = .inr z)) ∨
    (skp f n a < n ∧ (f (skp f n a) = 112 ∧ pt = false) ∧ ((rowOk f n (skp f n a + 1) 4 ∧ prsR f n k (psn f n (skp f n a + 1) 4 + 1) nb true L (rowV f n (skp f n a + 1)) (it + 1) o) ∨ ∃ z, rowBad f n (skp f n a + 1) 4 z ∧ o = .inr z)) ∨
    (skp f n a < n ∧ ¬ (f (skp f n a) = 98 ∧ nb < 6) ∧ ¬ (f (skp f n a) = 112 ∧ pt = false) ∧ o = .inr (skp f n a))
theorem rowBad_uniq {f : Nat → Int32} {n a m z z' : Nat} (h : rowBad f n a m z) (h' : rowBad f n a m z') : z = z' := by
  obtain ⟨k, k1, k2, k3, k4, k5⟩ := h
  obtain ⟨l, l1, l2, l3, l4, l5⟩ := h'
  rcases Nat.lt_trichotomy k l with q | q | q
  · exact absurd (l3 k q) (k4 (by omega))
  · rw [k2, l2, q]
  · exact absurd (k3 l q) (l4 (by omega))
theorem rowOk_bad {f : Nat → Int32} {n a m z : Nat} (h : rowOk f n a m) (h' : rowBad f n a m z) : False := by
  obtain ⟨l, l1, l2, l3, l4, l5⟩ := h'
  rcases Nat.lt_or_ge l m with q | q
  · exact l4 q (h.1 l q)
  · exact l5 (by omega) h.2
theorem prs_uniq {f : Nat → Int32} {n : Nat} : ∀ k k' a nb pt L P it o o', prsR f n k a nb pt L P it o → prsR f n k' a nb pt L P it o' → o = o' := by
  intro k
  induction k with
  | zero => intro k' a nb pt L P it o o' h; exact absurd h (fun z => z)
  | succ k ih =>
    intro k' a nb pt L P it o o' h h'
    cases k' with
    | zero => exact absurd h' (fun z => z)
    | succ k' =>
      rw [prsR] at h h'
      rcases h with ⟨h1, h2⟩ | ⟨h1, h2, h3⟩ | ⟨h1, h2, h3⟩ | ⟨h1, h2, h3, h4⟩ <;> rcases h' with ⟨g1, g2⟩ | ⟨g1, g2, g3⟩ | ⟨g1, g2, g3⟩ | ⟨g1, g2, g3, g4⟩
      · rw [h2, g2]
      · omega
      · omega
      · omega
      · omega
      · rcases h3 with ⟨h3, h4⟩ | ⟨z, h3, h4⟩ <;> rcases g3 with ⟨g3, g4⟩ | ⟨y, g3, g4⟩
        · exact ih _ _ _ _ _ _ _ _ _ h4 g4
        · exact absurd g3 (fun q => rowOk_bad h3 q)
        · exact absurd h3 (fun q => rowOk_bad g3 q)
        · rw [h4, g4, rowBad_uniq h3 g3]
      · have := h2.1.symm.trans g2.1; exact absurd this (by decide)
      · exact absurd h2 g2
      · omega
      · have := h2.1.symm.trans g2.1; exact absurd this (by decide)
      · rcases h3 with ⟨h3, h4⟩ | ⟨z, h3, h4⟩ <;> rcases g3 with ⟨g3, g4⟩ | ⟨y, g3, g4⟩
        · exact ih _ _ _ _ _ _ _ _ _ h4 g4
        · exact absurd g3 (fun q => rowOk_bad h3 q)
        · exact absurd h3 (fun q => rowOk_bad g3 q)
        · rw [h4, g4, rowBad_uniq h3 g3]
      · exact absurd h2 g3
      · omega
      · exact absurd g2 h2
      · exact absurd g2 h3
      · rw [h4, g4]
/-- reading's frame: the text's own numbers, its rows and its pot alone change -/
def Stx (σ τ : Sto) : Prop := τ.2 = σ.2 ∧ ∀ c j, c ≠ 4 → (c < 95 ∨ 101 ≤ c) → (c ≠ 1 ∨ j < 3) → τ.1 c j = σ.1 c j
def riP (σ : Sto) (n s nb : Nat) (pt : Bool) (r : Option Value) (τ : Sto) : Prop := Stx σ τ ∧
  ((r = some (.int 1) ∧ (σ.1 2 s = 98 ∧ nb < 6) ∧ rowOk (σ.1 2) n (s + 1) 6 ∧ τ.1 1 3 = nI (nb + 1) ∧ τ.1 1 5 = σ.1 1 5 ∧ τ.1 1 6 = nI (psn (σ.1 2) n (s + 1) 6 + 1) ∧ (∀ k, k < 6 → τ.1 (95 + nb) k = rowV (σ.1 2) n (s + 1) k) ∧ (∀ b, b < 6 → b ≠ nb → τ.1 (95 + b) = σ.1 (95 + b)) ∧ τ.1 4 = σ.1 4) ∨
   (r = some (.int 1) ∧ (σ.1 2 s = 112 ∧ pt = false) ∧ rowOk (σ.1 2) n (s + 1) 4 ∧ τ.1 1 3 = σ.1 1 3 ∧ τ.1 1 5 = 1 ∧ τ.1 1 6 = nI (psn (σ.1 2) n (s + 1) 4 + 1) ∧ (∀ k, k < 4 → τ.1 4 k = rowV (σ.1 2) n (s + 1) k) ∧ (∀ b, b < 6 → τ.1 (95 + b) = σ.1 (95 + b))) ∨
   (r = some (.int 0) ∧ ∃ z, τ.1 1 6 = nI z ∧ (((σ.1 2 s = 98 ∧ nb < 6) ∧ rowBad (σ.1 2) n (s + 1) 6 z) ∨ ((σ.1 2 s = 112 ∧ pt = false) ∧ rowBad (σ.1 2) n (s + 1) 4 z) ∨ (¬ (σ.1 2 s = 98 ∧ nb < 6) ∧ ¬ (σ.1 2 s = 112 ∧ pt = false) ∧ z = s))))
theorem isA_4 : IsA 4 4 := ⟨by decide, by decide, by decide⟩
theorem bool01 (b : Bool) : (if b = true then (1 : Int32) else 0) = 0 ↔ b = false := by cases b <;> decide
theorem m_X6_readItem {S : Scr} (n : Nat) (hn : n ≤ 120) (s : Nat) (hs : s < n) (nb : Nat) (hnb : nb ≤ 6) (pt : Bool) (σ : Sto) (hm : σ.1 1 1 = nI n) (hp : σ.1 1 6 = nI s) (h3 : σ.1 1 3 = nI nb) (h5 : σ.1 1 5 = if pt = true then 1 else 0) : Mt S yX6_readItem cX6_readItem 1 (some .boolean) 3 [.ref 1] σ (riP σ n s nb pt) := by
  refine mt_of (ls := [.ref 1]) (by decide) rfl (Nat.le_of_ble_eq_true rfl) (by simp [Value.category]) ?_
  refine ev_aload_n_0 (pc := 0) dX6_readItem_0 ?_
  refine ev_aload_n_0 (pc := 1) dX6_readItem_1 ?_
  refine ev_getI (pc := 2) dX6_readItem_2 fl_X6_30 (by decide) (by decide) (by decide) ?_
  refine ev_bipush (pc := 5) (v := 98) dX6_readItem_5 (by decide) ?_
  rw [hp]
  refine ev_callV1 (pc := 7) dX6_readItem_7 ml_X6_53 (m_X6_isAt n hn s (by omega) 98 σ hm) (by decide) ⟨_, rfl, rfl⟩ rfl (by decide) rfl (Nat.le_of_ble_eq_true rfl) ?_
  refine ev_if_eq (pc := 10) (tgt := 58) dX6_readItem_10 (by decide) (fun h10 => ?_) (fun h10 => ?_)
  · skip
    refine ev_aload_n_0 (pc := 58) dX6_readItem_58 ?_
    refine ev_aload_n_0 (pc := 59) dX6_readItem_59 ?_
    refine ev_getI (pc := 60) dX6_readItem_60 fl_X6_30 (by decide) (by decide) (by decide) ?_
    refine ev_bipush (pc := 63) (v := 112) dX6_readItem_63 (by decide) ?_
    rw [hp]
    refine ev_callV1 (pc := 65) dX6_readItem_65 ml_X6_53 (m_X6_isAt n hn s (by omega) 112 σ hm) (by decide) ⟨_, rfl, rfl⟩ rfl (by decide) rfl (Nat.le_of_ble_eq_true rfl) ?_
    refine ev_if_eq (pc := 68) (tgt := 102) dX6_readItem_68 (by decide) (fun h68 => ?_) (fun h68 => ?_)
    · skip
      refine ev_iconst (pc := 102) (v := 0) dX6_readItem_102 (by decide) ?_
      exact ev_ireturn (pc := 103) dX6_readItem_103 rfl rfl (⟨⟨rfl, fun _ _ _ _ _ => rfl⟩, Or.inr (Or.inr ⟨rfl, s, hp, Or.inr (Or.inr ⟨fun z => bI0.mp h10 ⟨hs, z.1⟩, fun z => bI0.mp h68 ⟨hs, z.1⟩, rfl⟩)⟩)⟩)
    · skip
      have hb112 : σ.1 2 s = 112 := (Decidable.not_not.mp (fun z => h68 (bI0.mpr z)) : atC (σ.1 2) n s 112).2
      refine ev_aload_n_0 (pc := 71) dX6_readItem_71 ?_
      refine ev_getI (pc := 72) dX6_readItem_72 fl_X6_36 (by decide) (by decide) (by decide) ?_
      refine ev_if_ne (pc := 75) (tgt := 102) dX6_readItem_75 (by decide) (fun h75 => ?_) (fun h75 => ?_)
      · skip
        refine ev_iconst (pc := 102) (v := 0) dX6_readItem_102 (by decide) ?_
        exact ev_ireturn (pc := 103) dX6_readItem_103 rfl rfl (⟨⟨rfl, fun _ _ _ _ _ => rfl⟩, Or.inr (Or.inr ⟨rfl, s, hp, Or.inr (Or.inr ⟨fun z => bI0.mp h10 ⟨hs, z.1⟩, fun z => by rw [h5] at h75; exact h75 ((bool01 pt).mpr z.2), rfl⟩)⟩)⟩)
      · skip
        rw [h5] at h75
        have hpt : pt = false := (bool01 pt).mp h75
        refine ev_aload_n_0 (pc := 78) dX6_readItem_78 ?_
        refine ev_dup (pc := 79) dX6_readItem_79 rfl ?_
        refine ev_getI (pc := 80) dX6_readItem_80 fl_X6_30 (by decide) (by decide) (by decide) ?_
        refine ev_iconst (pc := 83) (v := 1) dX6_readItem_83 (by decide) ?_
        refine ev_iadd (pc := 84) dX6_readItem_84 ?_
        rw [hp, nI_s1]
        refine ev_putI (pc := 85) dX6_readItem_85 fl_X6_30 (by decide) (by decide) (by decide) ?_
        refine ev_aload_n_0 (pc := 88) dX6_readItem_88 ?_
        refine ev_iconst (pc := 89) (v := 1) dX6_readItem_89 (by decide) ?_
        refine ev_putZ (pc := 90) dX6_readItem_90 fl_X6_36 (by decide) (by decide) (by decide) (by decide) ?_
        refine ev_aload_n_0 (pc := 93) dX6_readItem_93 ?_
        refine ev_aload_n_0 (pc := 94) dX6_readItem_94 ?_
        refine ev_getR (pc := 95) (r := 4) dX6_readItem_95 fl_X6_23 (by decide) (by decide) (by decide) (by decide) ?_
        refine ev_callV (pc := 98) dX6_readItem_98 ml_X6_57 (m4_X6_readRow n hn (s + 1) (by omega) isA_4 (by decide) (by decide) (wr (wr σ 1 6 (nI (s + 1))) 1 5 1) (by rw [wr_nj (by decide), wr_nj (by decide)]; exact hm) (by rw [wr_nj (by decide), wr_at])) (by decide) ⟨_, rfl, rfl⟩ rfl (by decide) rfl (Nat.le_of_ble_eq_true rfl) ?_
        intro rv τ g
        have e2 : (wr (wr σ 1 6 (nI (s + 1))) 1 5 1).1 2 = σ.1 2 := by rw [wr_ne (by decide), wr_ne (by decide)]
        have fr : ∀ k, rrI (wr (wr σ 1 6 (nI (s + 1))) 1 5 1) n (s + 1) 4 k τ → Stx σ τ ∧ τ.1 1 3 = σ.1 1 3 ∧ τ.1 1 5 = 1 ∧ (∀ b, b < 6 → τ.1 (95 + b) = σ.1 (95 + b)) := by
          intro k hk
          refine ⟨⟨hk.1, fun c j a1 a2 a3 => ?_⟩, ?_, ?_, fun b hb => funext fun j => ?_⟩
          · by_cases c1 : c = 1
            · subst c1; rw [hk.2.1 1 j (by omega) (by omega), wr_nj (by omega), wr_nj (by omega)]
            · rw [hk.2.1 c j (by omega) (Or.inl c1), wr_ne c1, wr_ne c1]
          · rw [hk.2.1 1 3 (by omega) (by omega), wr_nj (by decide), wr_nj (by decide)]
          · rw [hk.2.1 1 5 (by omega) (by omega), wr_at]
          · rw [hk.2.1 (95 + b) j (by omega) (by omega), wr_ne (by omega), wr_ne (by omega)]
        unfold rrP4 at g
        rw [e2] at g
        rcases g with ⟨rfl, g1, g2, g3⟩ | ⟨rfl, k, z, g1, g2, g3⟩
        · obtain ⟨f1, f2, f3, f4⟩ := fr _ g2
          exact ev_ireturn (pc := 101) dX6_readItem_101 rfl rfl ⟨f1, Or.inr (Or.inl ⟨rfl, ⟨hb112, hpt⟩, g1, f2, f3, g3, fun k hk => by have := g2.2.2.1 k hk; rw [e2] at this; exact this, f4⟩)⟩
        · obtain ⟨f1, f2, f3, f4⟩ := fr _ g2
          exact ev_ireturn (pc := 101) dX6_readItem_101 rfl rfl ⟨f1, Or.inr (Or.inr ⟨rfl, z, g3, Or.inr (Or.inl ⟨⟨hb112, hpt⟩, g1⟩)⟩)⟩
  · skip
    have hb98 : σ.1 2 s = 98 := (Decidable.not_not.mp (fun z => h10 (bI0.mpr z)) : atC (σ.1 2) n s 98).2
    refine ev_aload_n_0 (pc := 13) dX6_readItem_13 ?_
    refine ev_getI (pc := 14) dX6_readItem_14 fl_X6_33 (by decide) (by decide) (by decide) ?_
    refine ev_bipush (pc := 17) (v := 6) dX6_readItem_17 (by decide) ?_
    refine ev_icmp_ge (pc := 19) (tgt := 58) dX6_readItem_19 (by decide) (fun h19 => ?_) (fun h19 => ?_)
    · skip
      refine ev_aload_n_0 (pc := 58) dX6_readItem_58 ?_
      refine ev_aload_n_0 (pc := 59) dX6_readItem_59 ?_
      refine ev_getI (pc := 60) dX6_readItem_60 fl_X6_30 (by decide) (by decide) (by decide) ?_
      refine ev_bipush (pc := 63) (v := 112) dX6_readItem_63 (by decide) ?_
      rw [hp]
      refine ev_callV1 (pc := 65) dX6_readItem_65 ml_X6_53 (m_X6_isAt n hn s (by omega) 112 σ hm) (by decide) ⟨_, rfl, rfl⟩ rfl (by decide) rfl (Nat.le_of_ble_eq_true rfl) ?_
      refine ev_if_eq (pc := 68) (tgt := 102) dX6_readItem_68 (by decide) (fun h68 => ?_) (fun h68 => ?_)
      · skip
        refine ev_iconst (pc := 102) (v := 0) dX6_readItem_102 (by decide) ?_
        exact ev_ireturn (pc := 103) dX6_readItem_103 rfl rfl (⟨⟨rfl, fun _ _ _ _ _ => rfl⟩, Or.inr (Or.inr ⟨rfl, s, hp, Or.inr (Or.inr ⟨fun z => by rw [h3] at h19; have := ge120 (n := 6) (by decide) h19; omega, fun z => bI0.mp h68 ⟨hs, z.1⟩, rfl⟩)⟩)⟩)
      · skip
        have hb112 : σ.1 2 s = 112 := (Decidable.not_not.mp (fun z => h68 (bI0.mpr z)) : atC (σ.1 2) n s 112).2
        refine ev_aload_n_0 (pc := 71) dX6_readItem_71 ?_
        refine ev_getI (pc := 72) dX6_readItem_72 fl_X6_36 (by decide) (by decide) (by decide) ?_
        refine ev_if_ne (pc := 75) (tgt := 102) dX6_readItem_75 (by decide) (fun h75 => ?_) (fun h75 => ?_)
        · skip
          refine ev_iconst (pc := 102) (v := 0) dX6_readItem_102 (by decide) ?_
          exact ev_ireturn (pc := 103) dX6_readItem_103 rfl rfl (⟨⟨rfl, fun _ _ _ _ _ => rfl⟩, Or.inr (Or.inr ⟨rfl, s, hp, Or.inr (Or.inr ⟨fun z => by rw [h3] at h19; have := ge120 (n := 6) (by decide) h19; omega, fun z => by rw [h5] at h75; exact h75 ((bool01 pt).mpr z.2), rfl⟩)⟩)⟩)
        · skip
          rw [h5] at h75
          have hpt : pt = false := (bool01 pt).mp h75
          refine ev_aload_n_0 (pc := 78) dX6_readItem_78 ?_
          refine ev_dup (pc := 79) dX6_readItem_79 rfl ?_
          refine ev_getI (pc := 80) dX6_readItem_80 fl_X6_30 (by decide) (by decide) (by decide) ?_
          refine ev_iconst (pc := 83) (v := 1) dX6_readItem_83 (by decide) ?_
          refine ev_iadd (pc := 84) dX6_readItem_84 ?_
          rw [hp, nI_s1]
          refine ev_putI (pc := 85) dX6_readItem_85 fl_X6_30 (by decide) (by decide) (by decide) ?_
          refine ev_aload_n_0 (pc := 88) dX6_readItem_88 ?_
          refine ev_iconst (pc := 89) (v := 1) dX6_readItem_89 (by decide) ?_
          refine ev_putZ (pc := 90) dX6_readItem_90 fl_X6_36 (by decide) (by decide) (by decide) (by decide) ?_
          refine ev_aload_n_0 (pc := 93) dX6_readItem_93 ?_
          refine ev_aload_n_0 (pc := 94) dX6_readItem_94 ?_
          refine ev_getR (pc := 95) (r := 4) dX6_readItem_95 fl_X6_23 (by decide) (by decide) (by decide) (by decide) ?_
          refine ev_callV (pc := 98) dX6_readItem_98 ml_X6_57 (m4_X6_readRow n hn (s + 1) (by omega) isA_4 (by decide) (by decide) (wr (wr σ 1 6 (nI (s + 1))) 1 5 1) (by rw [wr_nj (by decide), wr_nj (by decide)]; exact hm) (by rw [wr_nj (by decide), wr_at])) (by decide) ⟨_, rfl, rfl⟩ rfl (by decide) rfl (Nat.le_of_ble_eq_true rfl) ?_
          intro rv τ g
          have e2 : (wr (wr σ 1 6 (nI (s + 1))) 1 5 1).1 2 = σ.1 2 := by rw [wr_ne (by decide), wr_ne (by decide)]
          have fr : ∀ k, rrI (wr (wr σ 1 6 (nI (s + 1))) 1 5 1) n (s + 1) 4 k τ → Stx σ τ ∧ τ.1 1 3 = σ.1 1 3 ∧ τ.1 1 5 = 1 ∧ (∀ b, b < 6 → τ.1 (95 + b) = σ.1 (95 + b)) := by
            intro k hk
            refine ⟨⟨hk.1, fun c j a1 a2 a3 => ?_⟩, ?_, ?_, fun b hb => funext fun j => ?_⟩
            · by_cases c1 : c = 1
              · subst c1; rw [hk.2.1 1 j (by omega) (by omega), wr_nj (by omega), wr_nj (by omega)]
              · rw [hk.2.1 c j (by omega) (Or.inl c1), wr_ne c1, wr_ne c1]
            · rw [hk.2.1 1 3 (by omega) (by omega), wr_nj (by decide), wr_nj (by decide)]
            · rw [hk.2.1 1 5 (by omega) (by omega), wr_at]
            · rw [hk.2.1 (95 + b) j (by omega) (by omega), wr_ne (by omega), wr_ne (by omega)]
          unfold rrP4 at g
          rw [e2] at g
          rcases g with ⟨rfl, g1, g2, g3⟩ | ⟨rfl, k, z, g1, g2, g3⟩
          · obtain ⟨f1, f2, f3, f4⟩ := fr _ g2
            exact ev_ireturn (pc := 101) dX6_readItem_101 rfl rfl ⟨f1, Or.inr (Or.inl ⟨rfl, ⟨hb112, hpt⟩, g1, f2, f3, g3, fun k hk => by have := g2.2.2.1 k hk; rw [e2] at this; exact this, f4⟩)⟩
          · obtain ⟨f1, f2, f3, f4⟩ := fr _ g2
            exact ev_ireturn (pc := 101) dX6_readItem_101 rfl rfl ⟨f1, Or.inr (Or.inr ⟨rfl, z, g3, Or.inr (Or.inl ⟨⟨hb112, hpt⟩, g1⟩)⟩)⟩
    · skip
      rw [h3] at h19
      have hnb6 : nb < 6 := lt120 (n := 6) (by decide) h19 (by omega)
      refine ev_aload_n_0 (pc := 22) dX6_readItem_22 ?_
      refine ev_dup (pc := 23) dX6_readItem_23 rfl ?_
      refine ev_getI (pc := 24) dX6_readItem_24 fl_X6_30 (by decide) (by decide) (by decide) ?_
      refine ev_iconst (pc := 27) (v := 1) dX6_readItem_27 (by decide) ?_
      refine ev_iadd (pc := 28) dX6_readItem_28 ?_
      rw [hp, nI_s1]
      refine ev_putI (pc := 29) dX6_readItem_29 fl_X6_30 (by decide) (by decide) (by decide) ?_
      refine ev_aload_n_0 (pc := 32) dX6_readItem_32 ?_
      refine ev_dup (pc := 33) dX6_readItem_33 rfl ?_
      refine ev_getI (pc := 34) dX6_readItem_34 fl_X6_33 (by decide) (by decide) (by decide) ?_
      refine ev_iconst (pc := 37) (v := 1) dX6_readItem_37 (by decide) ?_
      refine ev_iadd (pc := 38) dX6_readItem_38 ?_
      rw [wr_nj (show 3 ≠ 6 by decide), h3, nI_s1]
      refine ev_putI (pc := 39) dX6_readItem_39 fl_X6_33 (by decide) (by decide) (by decide) ?_
      refine ev_aload_n_0 (pc := 42) dX6_readItem_42 ?_
      refine ev_aload_n_0 (pc := 43) dX6_readItem_43 ?_
      refine ev_getR (pc := 44) (r := 3) dX6_readItem_44 fl_X6_20 (by decide) (by decide) (by decide) (by decide) ?_
      refine ev_aload_n_0 (pc := 47) dX6_readItem_47 ?_
      refine ev_getI (pc := 48) dX6_readItem_48 fl_X6_33 (by decide) (by decide) (by decide) ?_
      rw [wr_at]
      refine ev_iconst (pc := 51) (v := 1) dX6_readItem_51 (by decide) ?_
      refine ev_isub (pc := 52) dX6_readItem_52 ?_
      rw [nI_m1]
      refine ev_aaload' (pc := 53) (r := (95 + nb)) (j := nb) dX6_readItem_53 (by decide) (c := 12) (by decide) (by decide) (by decide) (show vp_in _ 6 from (vp_in_nI hnb6 (by decide))) (nI_clamp (by omega)) (rf3 nb) ?_
      refine ev_callV (pc := 54) dX6_readItem_54 ml_X6_57 (m6_X6_readRow n hn (s + 1) (by omega) (isA_rows hnb6) (by omega) (by omega) (wr (wr σ 1 6 (nI (s + 1))) 1 3 (nI (nb + 1))) (by rw [wr_nj (by decide), wr_nj (by decide)]; exact hm) (by rw [wr_nj (by decide), wr_at])) (by decide) ⟨_, rfl, rfl⟩ rfl (by decide) rfl (Nat.le_of_ble_eq_true rfl) ?_
      intro rv τ g
      have e2 : (wr (wr σ 1 6 (nI (s + 1))) 1 3 (nI (nb + 1))).1 2 = σ.1 2 := by rw [wr_ne (by decide), wr_ne (by decide)]
      have fr : ∀ k, rrI (wr (wr σ 1 6 (nI (s + 1))) 1 3 (nI (nb + 1))) n (s + 1) (95 + nb) k τ → Stx σ τ ∧ τ.1 1 3 = nI (nb + 1) ∧ τ.1 1 5 = σ.1 1 5 ∧ (∀ b, b < 6 → b ≠ nb → τ.1 (95 + b) = σ.1 (95 + b)) ∧ τ.1 4 = σ.1 4 := by
        intro k hk
        refine ⟨⟨hk.1, fun c j a1 a2 a3 => ?_⟩, ?_, ?_, fun b hb hne => funext fun j => ?_, funext fun j => ?_⟩
        · by_cases c1 : c = 1
          · subst c1; rw [hk.2.1 1 j (by omega) (by omega), wr_nj (by omega), wr_nj (by omega)]
          · rw [hk.2.1 c j (by omega) (Or.inl c1), wr_ne c1, wr_ne c1]
        · rw [hk.2.1 1 3 (by omega) (by omega), wr_at]
        · rw [hk.2.1 1 5 (by omega) (by omega), wr_nj (by decide), wr_nj (by decide)]
        · rw [hk.2.1 (95 + b) j (by omega) (by omega), wr_ne (by omega), wr_ne (by omega)]
        · rw [hk.2.1 4 j (by omega) (by omega), wr_ne (by decide), wr_ne (by decide)]
      unfold rrP6 at g
      rw [e2] at g
      rcases g with ⟨rfl, g1, g2, g3⟩ | ⟨rfl, k, z, g1, g2, g3⟩
      · obtain ⟨f1, f2, f3, f4, f5⟩ := fr _ g2
        exact ev_ireturn (pc := 57) dX6_readItem_57 rfl rfl ⟨f1, Or.inl ⟨rfl, ⟨hb98, hnb6⟩, g1, f2, f3, g3, fun k hk => by have := g2.2.2.1 k hk; rw [e2] at this; exact this, f4, f5⟩⟩
      · obtain ⟨f1, f2, f3, f4, f5⟩ := fr _ g2
        exact ev_ireturn (pc := 57) dX6_readItem_57 rfl rfl ⟨f1, Or.inr (Or.inr ⟨rfl, z, g3, Or.inl ⟨⟨hb98, hnb6⟩, g1⟩⟩)⟩
def rdI (σ : Sto) (n a nb : Nat) (pt : Bool) (L : Nat → Nat → Int32) (P : Nat → Int32) (τ : Sto) : Prop := Stx σ τ ∧ τ.1 1 6 = nI a ∧ τ.1 1 3 = nI nb ∧ (τ.1 1 5 = if pt = true then 1 else 0) ∧ (∀ b, b < nb → ∀ k, k < 6 → τ.1 (95 + b) k = L b k) ∧ ∀ k, k < 4 → τ.1 4 k = P k
def rdP (σ : Sto) (n : Nat) (r : Option Value) (τ : Sto) : Prop := Stx σ τ ∧ ∃ o, prsR (σ.1 2) n 121 0 0 false (fun _ _ => 0) (fun _ => 0) 0 o ∧
  ((∃ it nb L P, o = .inl (it, nb, L, P) ∧ r = some (.int (nI it)) ∧ it ≤ 120 ∧ nb ≤ 6 ∧ τ.1 1 3 = nI nb ∧ (∀ b, b < nb → ∀ k, k < 6 → τ.1 (95 + b) k = L b k) ∧ ∀ k, k < 4 → τ.1 4 k = P k) ∨ ∃ z, o = .inr z ∧ z ≤ 121 ∧ r = some (.int (-10 - nI z)))
theorem Stx.tr {a b c : Sto} (h : Stx a b) (g : Stx b c) : Stx a c := ⟨g.1.trans h.1, fun k j h1 h2 h3 => (g.2 k j h1 h2 h3).trans (h.2 k j h1 h2 h3)⟩
theorem Stx.f2 {σ τ : Sto} (h : Stx σ τ) : τ.1 2 = σ.1 2 := funext fun j => h.2 2 j (by decide) (by decide) (Or.inl (by decide))
theorem stx_place {σ τ : Sto} {x : Int32} (h : Stx σ τ) : Stx σ (wr τ 1 6 x) := ⟨h.1, fun k j h1 h2 h3 => by
  by_cases c : k = 1
  · subst c; rw [wr_nj (by omega)]; exact h.2 1 j h1 h2 h3
  · rw [wr_ne c]; exact h.2 k j h1 h2 h3⟩
theorem psn_ge {f : Nat → Int32} {n a : Nat} : ∀ k, a ≤ psn f n a k := by
  intro k
  induction k with
  | zero => exact skp_ge
  | succ k ih => exact Nat.le_trans (Nat.le_trans ih (Nat.le_succ _)) skp_ge
theorem rowBad_le {f : Nat → Int32} {n a m z : Nat} (ha : a ≤ n) (h : rowBad f n a m z) : z ≤ n := by
  obtain ⟨k, h1, h2, h3, -⟩ := h
  rw [h2]; exact psn_le ha k h3
theorem rowOk_lt {f : Nat → Int32} {n a m : Nat} (h : rowOk f n a m) : psn f n a m < n := h.2.1
set_option maxRecDepth 100000 in
theorem b_X6_read {S : Scr} (n : Nat) (hn : n ≤ 120) (k it a nb : Nat) (hit : it ≤ a) (ha : a ≤ n) (hnb : nb ≤ 6) (pt : Bool) (L : Nat → Nat → Int32) (P : Nat → Int32) (σ τ : Sto) (hm : σ.1 1 1 = nI n) (hI : rdI σ n a nb pt L P τ) (hR : ∀ o, prsR (σ.1 2) n (k + 1) a nb pt L P it o → prsR (σ.1 2) n 121 0 0 false (fun _ _ => 0) (fun _ => 0) 0 o) (K : ∀ τ2 a2 nb2 pt2 L2 P2, it + 1 ≤ a2 → a2 ≤ n → nb2 ≤ 6 → rdI σ n a2 nb2 pt2 L2 P2 τ2 → (∀ o, prsR (σ.1 2) n k a2 nb2 pt2 L2 P2 (it + 1) o → prsR (σ.1 2) n 121 0 0 false (fun _ _ => 0) (fun _ => 0) 0 o) → Ev S RX6 cX6_read 2 (some .int) 4 25 [.ref 1, .int (nI (it + 1))] [] τ2 (rdP σ n)) : Ev S RX6 cX6_read 2 (some .int) 4 25 [.ref 1, .int (nI it)] [] τ (rdP σ n) := by
  have hf := hI.1.f2
  have em : τ.1 1 1 = nI n := (hI.1.2 1 1 (by decide) (by decide) (by decide)).trans hm
  refine ev_iload_n_1 (pc := 25) dX6_read_25 ?_
  refine ev_bipush (pc := 26) (v := 120) dX6_read_26 (by decide) ?_
  refine ev_icmp_gt (pc := 28) (tgt := 69) dX6_read_28 (by decide) (fun h28 => by exact absurd h28 (nI_nlt (a := 120) (b := it) (by omega) (by decide))) (fun h28 => ?_)
  refine ev_aload_n_0 (pc := 31) dX6_read_31 ?_
  refine ev_callV0 (pc := 32) dX6_read_32 ml_X6_46 (m_X6_skip n hn a ha τ em hI.2.1) (by decide) ⟨_, rfl, rfl⟩ rfl (by decide) rfl (Nat.le_of_ble_eq_true rfl) ?_
  rw [hf]
  have em2 : (wr τ 1 6 (nI (skp (σ.1 2) n a))).1 1 1 = nI n := by rw [wr_nj (by decide)]; exact em
  have ef2 : (wr τ 1 6 (nI (skp (σ.1 2) n a))).1 2 = σ.1 2 := by rw [wr_ne (by decide)]; exact hf
  refine ev_aload_n_0 (pc := 35) dX6_read_35 ?_
  refine ev_getI (pc := 36) dX6_read_36 fl_X6_30 (by decide) (by decide) (by decide) ?_
  refine ev_aload_n_0 (pc := 39) dX6_read_39 ?_
  refine ev_getI (pc := 40) dX6_read_40 fl_X6_26 (by decide) (by decide) (by decide) ?_
  refine ev_icmp_lt (pc := 43) (tgt := 48) dX6_read_43 (by decide) (fun h43 => ?_) (fun h43 => ?_)
  · skip
    have hsn : skp (σ.1 2) n a < n := by
      rw [wr_at, em2] at h43
      rcases Nat.lt_or_ge (skp (σ.1 2) n a) n with z | z
      · exact z
      · exact absurd h43 (nI_nlt z (by have := skp_le (f := σ.1 2) ha; omega))
    refine ev_aload_n_0 (pc := 48) dX6_read_48 ?_
    refine ev_callV (pc := 49) dX6_read_49 ml_X6_49 (m_X6_readItem n hn (skp (σ.1 2) n a) hsn nb hnb pt _ em2 wr_at (by rw [wr_nj (by decide)]; exact hI.2.2.1) (by rw [wr_nj (by decide)]; exact hI.2.2.2.1)) (by decide) ⟨_, rfl, rfl⟩ rfl (by decide) rfl (Nat.le_of_ble_eq_true rfl) ?_
    intro rv τ3 g
    unfold riP at g
    rw [ef2] at g
    obtain ⟨gx, g⟩ := g
    have gs : Stx σ τ3 := (stx_place hI.1).tr gx
    have sle := skp_ge (f := σ.1 2) (n := n) (a := a)
    rcases g with ⟨rfl, g1, g2, g3, g4, g5, g6, g7, g8⟩ | ⟨rfl, g1, g2, g3, g4, g5, g6, g7⟩ | ⟨rfl, z, gz, g1⟩
    · skip
      refine ev_if_ne (pc := 52) (tgt := 63) dX6_read_52 (by decide) (fun h52 => ?_) (fun h52 => by exact absurd h52 (by decide))
      refine ev_iinc_1 (pc := 63) (v := nI (it + 1)) dX6_read_63 (nI_inc it) (by decide) ?_
      refine ev_goto (pc := 66) (tgt := 25) dX6_read_66 (by decide) ?_
      have hp6 := psn_ge (f := σ.1 2) (n := n) (a := skp (σ.1 2) n a + 1) 6
      refine K τ3 _ (nb + 1) pt (updL L nb (rowV (σ.1 2) n (skp (σ.1 2) n a + 1))) P (by omega) (by have := (rowOk_lt g2); omega) (by omega) ⟨gs, g5, g3, ?_, fun b hb k hk => ?_, fun k hk => ?_⟩ (fun o ho => hR o ?_)
      · rw [g4, wr_nj (by decide)]; exact hI.2.2.2.1
      · by_cases e : b = nb
        · rw [e]; simp only [updL, if_true]; exact g6 k hk
        · simp only [updL, if_neg e]
          rw [g7 b (by omega) e, wr_ne (by omega)]; exact hI.2.2.2.2.1 b (by omega) k hk
      · rw [g8, wr_ne (by decide)]; exact hI.2.2.2.2.2 k hk
      · rw [prsR]; exact Or.inr (Or.inl ⟨hsn, g1, Or.inl ⟨g2, ho⟩⟩)
    · skip
      refine ev_if_ne (pc := 52) (tgt := 63) dX6_read_52 (by decide) (fun h52 => ?_) (fun h52 => by exact absurd h52 (by decide))
      refine ev_iinc_1 (pc := 63) (v := nI (it + 1)) dX6_read_63 (nI_inc it) (by decide) ?_
      refine ev_goto (pc := 66) (tgt := 25) dX6_read_66 (by decide) ?_
      have hp4 := psn_ge (f := σ.1 2) (n := n) (a := skp (σ.1 2) n a + 1) 4
      refine K τ3 _ nb true L (rowV (σ.1 2) n (skp (σ.1 2) n a + 1)) (by omega) (by have := (rowOk_lt g2); omega) hnb ⟨gs, g5, ?_, g4, fun b hb k hk => ?_, g6⟩ (fun o ho => hR o ?_)
      · rw [g3, wr_nj (by decide)]; exact hI.2.2.1
      · rw [g7 b (by omega), wr_ne (by omega)]; exact hI.2.2.2.2.1 b hb k hk
      · rw [prsR]; exact Or.inr (Or.inr (Or.inl ⟨hsn, g1, Or.inl ⟨g2, ho⟩⟩))
    · have zle : z ≤ 121 := by
        rcases g1 with ⟨-, g2⟩ | ⟨-, g2⟩ | ⟨-, -, g2⟩
        · have := rowBad_le (by omega) g2; omega
        · have := rowBad_le (by omega) g2; omega
        · omega
      refine ev_if_ne (pc := 52) (tgt := 63) dX6_read_52 (by decide) (fun h52 => by exact absurd h52 (by decide)) (fun h52 => ?_)
      refine ev_bipush (pc := 55) (v := (-10)) dX6_read_55 (by decide) ?_
      refine ev_aload_n_0 (pc := 57) dX6_read_57 ?_
      refine ev_getI (pc := 58) dX6_read_58 fl_X6_30 (by decide) (by decide) (by decide) ?_
      refine ev_isub (pc := 61) dX6_read_61 ?_
      exact ev_ireturn (pc := 62) dX6_read_62 rfl rfl (⟨gs, .inr z, hR _ (by rw [prsR]; rcases g1 with ⟨g1, g2⟩ | ⟨g1, g2⟩ | ⟨g1, g2, g3⟩; exact Or.inr (Or.inl ⟨hsn, g1, Or.inr ⟨z, g2, rfl⟩⟩); exact Or.inr (Or.inr (Or.inl ⟨hsn, g1, Or.inr ⟨z, g2, rfl⟩⟩)); exact Or.inr (Or.inr (Or.inr ⟨hsn, g1, g2, by rw [g3]⟩))), Or.inr ⟨z, rfl, zle, by rw [gz]⟩⟩)
  · skip
    refine ev_iload_n_1 (pc := 46) dX6_read_46 ?_
    exact ev_ireturn (pc := 47) dX6_read_47 rfl rfl (⟨stx_place hI.1, .inl (it, nb, L, P), hR _ (by rw [prsR]; exact Or.inl ⟨by rw [wr_at, em2] at h43; rcases Nat.lt_or_ge (skp (σ.1 2) n a) n with z | z; exact absurd (nI_lt z (by omega)) h43; exact z, rfl⟩), Or.inl ⟨it, nb, L, P, rfl, rfl, by omega, hnb, by rw [wr_nj (by decide)]; exact hI.2.2.1, fun b hb k hk => by rw [wr_ne (by omega)]; exact hI.2.2.2.2.1 b hb k hk, fun k hk => by rw [wr_ne (by decide)]; exact hI.2.2.2.2.2 k hk⟩⟩)
theorem m_X6_read {S : Scr} (n : Nat) (hn : n ≤ 120) (σ : Sto) (hm : σ.1 1 1 = nI n) : Mt S yX6_read cX6_read 2 (some .int) 4 [.ref 1] σ (rdP σ n) := by
  refine mt_of (ls := [.ref 1, .null]) (by decide) rfl (Nat.le_of_ble_eq_true rfl) (by simp [Value.category]) ?_
  refine ev_aload_n_0 (pc := 0) dX6_read_0 ?_
  refine ev_iconst (pc := 1) (v := 0) dX6_read_1 (by decide) ?_
  refine ev_putI (pc := 2) dX6_read_2 fl_X6_30 (by decide) (by decide) (by decide) ?_
  refine ev_aload_n_0 (pc := 5) dX6_read_5 ?_
  refine ev_iconst (pc := 6) (v := 0) dX6_read_6 (by decide) ?_
  refine ev_putI (pc := 7) dX6_read_7 fl_X6_33 (by decide) (by decide) (by decide) ?_
  refine ev_aload_n_0 (pc := 10) dX6_read_10 ?_
  refine ev_iconst (pc := 11) (v := 0) dX6_read_11 (by decide) ?_
  refine ev_putZ (pc := 12) dX6_read_12 fl_X6_36 (by decide) (by decide) (by decide) (by decide) ?_
  refine ev_aload_n_0 (pc := 15) dX6_read_15 ?_
  refine ev_getR (pc := 16) (r := 4) dX6_read_16 fl_X6_23 (by decide) (by decide) (by decide) (by decide) ?_
  refine ev_iconst (pc := 19) (v := 0) dX6_read_19 (by decide) ?_
  refine ev_callS0 (pc := 20) dX6_read_20 ml_X6_40 (m_J_fill isA_4 (by decide) 0 _) rfl (by decide) rfl (Nat.le_of_ble_eq_true rfl) ?_
  refine ev_iconst (pc := 23) (v := 0) dX6_read_23 (by decide) ?_
  refine ev_istore_n_1 (pc := 24) dX6_read_24 (by decide) ?_
  have h0 : rdI σ n 0 0 false (fun _ _ => 0) (fun _ => 0) (flW (wr (wr (wr σ 1 6 0) 1 3 0) 1 5 0) 4 0 4) := by
    refine ⟨⟨rfl, fun c j h1 h2 h3 => ?_⟩, ?_, ?_, ?_, fun b hb => absurd hb (Nat.not_lt_zero b), fun k hk => ?_⟩
    · rw [flW_ne h1]
      by_cases c1 : c = 1
      · subst c1; rw [wr_nj (by omega), wr_nj (by omega), wr_nj (by omega)]
      · rw [wr_ne c1, wr_ne c1, wr_ne c1]
    · rw [flW_ne (by decide), wr_nj (by decide), wr_nj (by decide), wr_at]; rfl
    · rw [flW_ne (by decide), wr_nj (by decide), wr_at]; rfl
    · rw [flW_ne (by decide), wr_at]; rfl
    · unfold flW; simp [hk]
  have hd : ∀ k it a nb pt L P τ, it + k = 121 → it ≤ a → a ≤ n → nb ≤ 6 → rdI σ n a nb pt L P τ → (∀ o, prsR (σ.1 2) n k a nb pt L P it o → prsR (σ.1 2) n 121 0 0 false (fun _ _ => 0) (fun _ => 0) 0 o) → Ev S RX6 cX6_read 2 (some .int) 4 25 [.ref 1, .int (nI it)] [] τ (rdP σ n) := by
    intro k
    induction k with
    | zero => intro it a nb pt L P τ h1 h2 h3; omega
    | succ k ih =>
      intro it a nb pt L P τ h1 h2 h3 h4 hI hR
      exact b_X6_read n hn k it a nb h2 h3 h4 pt L P σ τ hm hI hR (fun τ2 a2 nb2 pt2 L2 P2 g1 g2 g3 g4 g5 => ih (it + 1) a2 nb2 pt2 L2 P2 τ2 (by omega) g1 g2 g3 g4 g5)
  exact hd 121 0 0 0 false _ _ _ rfl (Nat.le_refl 0) (Nat.zero_le n) (by decide) h0 (fun o ho => ho)
