/-! ===== the reference: next ===== -/
abbrev tokC (c : Int32) : Int32 := if c = 98 ∨ c = 112 then 1 else if c = 59 then 3 else 4
/-- nothing but the reader's four numbers -/
def nxF (σ τ : Sto) : Prop := τ.2 = σ.2 ∧ (∀ k, k ≠ 117 → τ.1 k = σ.1 k) ∧ ∀ j, (j < 14 ∨ 17 < j) → τ.1 117 j = σ.1 117 j
theorem nxF.rf (σ : Sto) : nxF σ σ := ⟨rfl, fun _ _ => rfl, fun _ _ => rfl⟩
theorem nxF.tr {a b c : Sto} (h : nxF a b) (g : nxF b c) : nxF a c := ⟨g.1.trans h.1, fun k hk => (g.2.1 k hk).trans (h.2.1 k hk), fun j hj => (g.2.2 j hj).trans (h.2.2 j hj)⟩
theorem nxF.wr {a b : Sto} (h : nxF a b) {j : Nat} (hj : 14 ≤ j ∧ j ≤ 17) (x : Int32) : nxF a (wr b 117 j x) := ⟨h.1, fun k hk => by rw [wr_ne hk]; exact h.2.1 k hk, fun i hi => by rw [wr_nj (by omega)]; exact h.2.2 i hi⟩
theorem nxF.mls {σ τ : Sto} (h : nxF σ τ) : Mls σ τ := ⟨h.1, fun c hc => h.2.1 c (by omega), fun c h1 h2 => h.2.1 c (by omega), fun j hj => h.2.2 j (by omega)⟩
def nxP (f : Nat → Int32) (n c : Nat) (σ τ : Sto) : Prop := nxF σ τ ∧ τ.1 117 15 = nI (skp f n c) ∧
  ((¬ skp f n c < n ∧ τ.1 117 16 = 0) ∨
   (isd f n (skp f n c) ∧ ¬ isd f n (skp f n c + 1) ∧ τ.1 117 16 = 2 ∧ τ.1 117 17 = f (skp f n c) - 48 ∧ τ.1 117 14 = nI (skp f n c + 1)) ∨
   (isd f n (skp f n c) ∧ isd f n (skp f n c + 1) ∧ (τ.1 117 16 = 4 ∨ (τ.1 117 16 = 2 ∧ 10 ≤ τ.1 117 17))) ∨
   (skp f n c < n ∧ ¬ isd f n (skp f n c) ∧ τ.1 117 16 = tokC (f (skp f n c)) ∧ τ.1 117 17 = f (skp f n c) ∧ τ.1 117 14 = nI (skp f n c + 1)))
theorem fig {f : Nat → Int32} {n c : Nat} (h : isd f n c) : ∃ w, w ≤ 9 ∧ f c = nI (48 + w) := by
  obtain ⟨-, h1, h2⟩ := h
  rw [tI_le, show (48 : Int32).toInt = 48 from rfl] at h1
  rw [tI_le, show (57 : Int32).toInt = 57 from rfl] at h2
  have e := nI_self (i := f c) (by omega)
  have t := tn_of (i := f c) (by omega)
  refine ⟨(f c).toNatClampNeg - 48, by omega, ?_⟩
  rw [show 48 + ((f c).toNatClampNeg - 48) = (f c).toNatClampNeg by omega]; exact e.symm
theorem le99 {v : Nat} (hv : v < 1000) : nI v ≤ 99 ↔ ¬ 99 < v := by
  rw [tI_le, nI_toInt (by omega), show (99 : Int32).toInt = 99 from rfl]; omega
set_option maxRecDepth 100000 in
theorem b1_X8_next {S : Scr} (f : Nat → Int32) (n c : Nat) (hc : c ≤ n) (g : Int32) (v : Nat) (hv : v < 1000) (σ : Sto) {Q : Option Value → Sto → Prop} (h : txT f n σ) (hcu : σ.1 117 14 = nI c) (hnu : σ.1 117 17 = nI v) (K1 : isd f n c → ∀ w u, w ≤ 9 → f c = nI (48 + w) → u = (if 99 < v then v else 10 * v + w) → Ev S RX8 cX8_next 2 none 2 67 [.ref 117, .int g] [] (wr (wr σ 117 17 (nI u)) 117 14 (nI (c + 1))) (Q)) (K2 : ¬ isd f n c → Ev S RX8 cX8_next 2 none 2 133 [.ref 117, .int g] [] σ (Q)) : Ev S RX8 cX8_next 2 none 2 67 [.ref 117, .int g] [] σ (Q) := by
  refine ev_aload_n_0 (pc := 67) dX8_next_67 ?_
  refine ev_aload_n_0 (pc := 68) dX8_next_68 ?_
  refine ev_getI (pc := 69) dX8_next_69 fl_X8_61 (by decide) (by decide) (by decide) ?_
  rw [hcu]
  refine ev_callV1 (pc := 72) dX8_next_72 ml_X8_64 (m_X8_letterAt f n c (by have := h.1; omega) σ h) (by decide) ⟨_, rfl, rfl⟩ rfl (by decide) rfl (Nat.le_of_ble_eq_true rfl) ?_
  refine ev_callS1 (pc := 75) dX8_next_75 ml_X8_77 (m_X8_isFigure _ σ) rfl (by decide) rfl (Nat.le_of_ble_eq_true rfl) ?_
  rw [bI_iff (ltr_d h.2.2.2)]
  refine ev_if_eq (pc := 78) (tgt := 133) dX8_next_78 (by decide) (fun h78 => ?_) (fun h78 => ?_)
  · skip
    exact K2 (bI0.mp h78)
  · skip
    refine ev_aload_n_0 (pc := 81) dX8_next_81 ?_
    refine ev_aload_n_0 (pc := 82) dX8_next_82 ?_
    refine ev_getI (pc := 83) dX8_next_83 fl_X8_71 (by decide) (by decide) (by decide) ?_
    rw [hnu]
    refine ev_bipush (pc := 86) (v := 99) dX8_next_86 (by decide) ?_
    refine ev_icmp_le (pc := 88) (tgt := 98) dX8_next_88 (by decide) (fun h88 => ?_) (fun h88 => ?_)
    · skip
      refine ev_bipush (pc := 98) (v := 10) dX8_next_98 (by decide) ?_
      refine ev_aload_n_0 (pc := 100) dX8_next_100 ?_
      refine ev_getI (pc := 101) dX8_next_101 fl_X8_71 (by decide) (by decide) (by decide) ?_
      rw [hnu]
      refine ev_imul (pc := 104) dX8_next_104 ?_
      refine ev_aload_n_0 (pc := 105) dX8_next_105 ?_
      refine ev_aload_n_0 (pc := 106) dX8_next_106 ?_
      refine ev_getI (pc := 107) dX8_next_107 fl_X8_61 (by decide) (by decide) (by decide) ?_
      rw [hcu]
      refine ev_callV1 (pc := 110) dX8_next_110 ml_X8_64 (m_X8_letterAt f n c (by have := h.1; omega) σ h) (by decide) ⟨_, rfl, rfl⟩ rfl (by decide) rfl (Nat.le_of_ble_eq_true rfl) ?_
      refine ev_iadd (pc := 113) dX8_next_113 ?_
      refine ev_bipush (pc := 114) (v := 48) dX8_next_114 (by decide) ?_
      refine ev_isub (pc := 116) dX8_next_116 ?_
      refine ev_putI (pc := 117) dX8_next_117 fl_X8_71 (by decide) (by decide) (by decide) ?_
      refine ev_aload_n_0 (pc := 120) dX8_next_120 ?_
      refine ev_dup (pc := 121) dX8_next_121 rfl ?_
      refine ev_getI (pc := 122) dX8_next_122 fl_X8_61 (by decide) (by decide) (by decide) ?_
      rw [wr_nj (by decide), hcu]
      refine ev_iconst (pc := 125) (v := 1) dX8_next_125 (by decide) ?_
      refine ev_iadd (pc := 126) dX8_next_126 ?_
      rw [nI_s1]
      refine ev_putI (pc := 127) dX8_next_127 fl_X8_61 (by decide) (by decide) (by decide) ?_
      refine ev_goto (pc := 130) (tgt := 67) dX8_next_130 (by decide) ?_
      have hd : isd f n c := Decidable.not_not.mp (fun z => h78 (bI0.mpr z))
      obtain ⟨w, hw, ew⟩ := fig hd
      refine ev_eq rfl rfl (congrArg (fun z => wr (wr σ 117 17 z) 117 14 (nI (c + 1))) ?_) (K1 hd w _ hw ew rfl)
      rw [if_neg ((le99 hv).mp h88), ltr, if_pos hd.1, ew, show (10 : Int32) * nI v = nI (10 * v) from nI_mul 10 v, nI_add, show nI (10 * v + (48 + w)) - 48 = nI (10 * v + (48 + w) - 48) from nI_sub (b := 48) (by omega) (by omega), show 10 * v + (48 + w) - 48 = 10 * v + w by omega]
    · skip
      refine ev_aload_n_0 (pc := 91) dX8_next_91 ?_
      refine ev_getI (pc := 92) dX8_next_92 fl_X8_71 (by decide) (by decide) (by decide) ?_
      rw [hnu]
      refine ev_goto (pc := 95) (tgt := 117) dX8_next_95 (by decide) ?_
      refine ev_putI (pc := 117) dX8_next_117 fl_X8_71 (by decide) (by decide) (by decide) ?_
      refine ev_aload_n_0 (pc := 120) dX8_next_120 ?_
      refine ev_dup (pc := 121) dX8_next_121 rfl ?_
      refine ev_getI (pc := 122) dX8_next_122 fl_X8_61 (by decide) (by decide) (by decide) ?_
      rw [wr_nj (by decide), hcu]
      refine ev_iconst (pc := 125) (v := 1) dX8_next_125 (by decide) ?_
      refine ev_iadd (pc := 126) dX8_next_126 ?_
      rw [nI_s1]
      refine ev_putI (pc := 127) dX8_next_127 fl_X8_61 (by decide) (by decide) (by decide) ?_
      refine ev_goto (pc := 130) (tgt := 67) dX8_next_130 (by decide) ?_
      have hd : isd f n c := Decidable.not_not.mp (fun z => h78 (bI0.mpr z))
      obtain ⟨w, hw, ew⟩ := fig hd
      refine ev_eq rfl rfl (congrArg (fun z => wr (wr σ 117 17 z) 117 14 (nI (c + 1))) ?_) (K1 hd w _ hw ew rfl)
      rw [if_pos (Decidable.not_not.mp (fun z => h88 ((le99 hv).mpr z)))]
def invN (f : Nat → Int32) (n s w0 c v : Nat) : Prop := (c = s + 1 ∧ v = w0) ∨ (s + 1 < c ∧ isd f n (s + 1) ∧ (w0 = 0 ∨ 10 ≤ v))
theorem invN.s {f : Nat → Int32} {n s w0 c v w : Nat} (h : invN f n s w0 c v) (h0 : w0 ≤ 9) (hd : isd f n c) : invN f n s w0 (c + 1) (if 99 < v then v else 10 * v + w) := by
  rcases h with ⟨rfl, rfl⟩ | ⟨h1, h2, h3⟩
  · refine Or.inr ⟨by omega, hd, ?_⟩
    rw [if_neg (by omega)]; omega
  · refine Or.inr ⟨by omega, h2, h3.imp id (fun z => ?_)⟩
    split <;> omega
theorem g48 {w : Nat} (h : w ≤ 9) : nI (48 + w) = 48 ↔ w = 0 := ⟨fun z => by have := nI_inj (b := 48) z (by omega) (by decide); omega, fun z => by rw [z]; rfl⟩
set_option maxRecDepth 100000 in
theorem e1_X8_next {S : Scr} (f : Nat → Int32) (n c0 s w0 : Nat) (hs : s = skp f n c0) (hd : isd f n s) (hw0 : w0 ≤ 9) (ew : f s = nI (48 + w0)) (c v : Nat) (hc : c ≤ n) (hn : n ≤ 120) (hv : v < 1000) (σ τ : Sto) (hF : nxF σ τ) (hcu : τ.1 117 14 = nI c) (hnu : τ.1 117 17 = nI v) (hst : τ.1 117 15 = nI s) (hi : invN f n s w0 c v) (hno : ¬ isd f n c) : Ev S RX8 cX8_next 2 none 2 133 [.ref 117, .int (nI (48 + w0))] [] τ (fun r τ => r = none ∧ nxP f n c0 σ τ) := by
  refine ev_aload_n_0 (pc := 133) dX8_next_133 ?_
  refine ev_aload_n_0 (pc := 134) dX8_next_134 ?_
  refine ev_getI (pc := 135) dX8_next_135 fl_X8_71 (by decide) (by decide) (by decide) ?_
  rw [hnu]
  refine ev_bipush (pc := 138) (v := 99) dX8_next_138 (by decide) ?_
  refine ev_icmp_gt (pc := 140) (tgt := 162) dX8_next_140 (by decide) (fun h140 => ?_) (fun h140 => ?_)
  · skip
    refine ev_iconst (pc := 162) (v := 4) dX8_next_162 (by decide) ?_
    refine ev_goto (pc := 163) (tgt := 167) dX8_next_163 (by decide) ?_
    refine ev_putI (pc := 167) dX8_next_167 fl_X8_74 (by decide) (by decide) (by decide) ?_
    refine ev_goto (pc := 170) (tgt := 219) dX8_next_170 (by decide) ?_
    have h99 : 99 < v := by rw [tI_lt, nI_toInt (by omega), show (99 : Int32).toInt = 99 from rfl] at h140; omega
    have hz : isd f n (s + 1) := by rcases hi with z | z; omega; exact z.2.1
    exact ev_return (pc := 219) dX8_next_219 rfl (⟨rfl, hF.wr (by decide) _, by rw [wr_nj (by decide), hst, hs], Or.inr (Or.inr (Or.inl ⟨hs ▸ hd, hs ▸ (hz), Or.inl (by rw [wr_at])⟩))⟩)
  · skip
    refine ev_iload_n_1 (pc := 143) dX8_next_143 ?_
    refine ev_bipush (pc := 144) (v := 48) dX8_next_144 (by decide) ?_
    refine ev_icmp_ne (pc := 146) (tgt := 166) dX8_next_146 (by decide) (fun h146 => ?_) (fun h146 => ?_)
    · skip
      refine ev_iconst (pc := 166) (v := 2) dX8_next_166 (by decide) ?_
      refine ev_putI (pc := 167) dX8_next_167 fl_X8_74 (by decide) (by decide) (by decide) ?_
      refine ev_goto (pc := 170) (tgt := 219) dX8_next_170 (by decide) ?_
      rcases hi with hz | hz
      · exact ev_return (pc := 219) dX8_next_219 rfl (⟨rfl, hF.wr (by decide) _, by rw [wr_nj (by decide), hst, hs], Or.inr (Or.inl ⟨hs ▸ hd, hs ▸ (hz.1 ▸ hno), by rw [wr_at], by rw [wr_nj (by decide), hnu, hz.2, ← hs, ew]; exact (nI_sub (a := 48 + w0) (b := 48) (by omega) (by omega) |>.trans (congrArg nI (by omega))).symm, by rw [wr_nj (by decide), hcu, hz.1, hs]⟩)⟩)
      · have h10 : 10 ≤ v := by rcases hz.2.2 with z | z; exact absurd ((g48 hw0).mpr z) h146; exact z
        exact ev_return (pc := 219) dX8_next_219 rfl (⟨rfl, hF.wr (by decide) _, by rw [wr_nj (by decide), hst, hs], Or.inr (Or.inr (Or.inl ⟨hs ▸ hd, hs ▸ (hz.2.1), Or.inr ⟨by rw [wr_at], by rw [wr_nj (by decide), hnu]; exact nI_le (a := 10) (by omega) (by omega)⟩⟩))⟩)
    · skip
      refine ev_aload_n_0 (pc := 149) dX8_next_149 ?_
      refine ev_getI (pc := 150) dX8_next_150 fl_X8_61 (by decide) (by decide) (by decide) ?_
      rw [hcu]
      refine ev_aload_n_0 (pc := 153) dX8_next_153 ?_
      refine ev_getI (pc := 154) dX8_next_154 fl_X8_68 (by decide) (by decide) (by decide) ?_
      rw [hst]
      refine ev_isubc (pc := 157) (v := nI (c - s)) dX8_next_157 (nI_sub (by unfold invN at hi; omega) (by omega)) ?_
      refine ev_iconst (pc := 158) (v := 1) dX8_next_158 (by decide) ?_
      refine ev_icmp_le (pc := 159) (tgt := 166) dX8_next_159 (by decide) (fun h159 => ?_) (fun h159 => ?_)
      · skip
        refine ev_iconst (pc := 166) (v := 2) dX8_next_166 (by decide) ?_
        refine ev_putI (pc := 167) dX8_next_167 fl_X8_74 (by decide) (by decide) (by decide) ?_
        refine ev_goto (pc := 170) (tgt := 219) dX8_next_170 (by decide) ?_
        have h1 : c - s ≤ 1 := by rw [tI_le, nI_toInt (by omega), show (1 : Int32).toInt = 1 from rfl] at h159; omega
        have hz : c = s + 1 ∧ v = w0 := by rcases hi with z | z; exact z; omega
        exact ev_return (pc := 219) dX8_next_219 rfl (⟨rfl, hF.wr (by decide) _, by rw [wr_nj (by decide), hst, hs], Or.inr (Or.inl ⟨hs ▸ hd, hs ▸ (hz.1 ▸ hno), by rw [wr_at], by rw [wr_nj (by decide), hnu, hz.2, ← hs, ew]; exact (nI_sub (a := 48 + w0) (b := 48) (by omega) (by omega) |>.trans (congrArg nI (by omega))).symm, by rw [wr_nj (by decide), hcu, hz.1, hs]⟩)⟩)
      · skip
        refine ev_iconst (pc := 162) (v := 4) dX8_next_162 (by decide) ?_
        refine ev_goto (pc := 163) (tgt := 167) dX8_next_163 (by decide) ?_
        refine ev_putI (pc := 167) dX8_next_167 fl_X8_74 (by decide) (by decide) (by decide) ?_
        refine ev_goto (pc := 170) (tgt := 219) dX8_next_170 (by decide) ?_
        have h1 : ¬ c - s ≤ 1 := by rw [tI_le, nI_toInt (by omega), show (1 : Int32).toInt = 1 from rfl] at h159; omega
        have hz : isd f n (s + 1) := by rcases hi with z | z; omega; exact z.2.1
        exact ev_return (pc := 219) dX8_next_219 rfl (⟨rfl, hF.wr (by decide) _, by rw [wr_nj (by decide), hst, hs], Or.inr (Or.inr (Or.inl ⟨hs ▸ hd, hs ▸ (hz), Or.inl (by rw [wr_at])⟩))⟩)
theorem l1_X8_next {S : Scr} (f : Nat → Int32) (n c0 s w0 : Nat) (hs : s = skp f n c0) (hd : isd f n s) (hw0 : w0 ≤ 9) (ew : f s = nI (48 + w0)) (hn : n ≤ 120) (σ : Sto) : ∀ k c, c + k = n → ∀ v, v < 1000 → ∀ τ, txT f n τ → nxF σ τ → τ.1 117 14 = nI c → τ.1 117 17 = nI v → τ.1 117 15 = nI s → invN f n s w0 c v → Ev S RX8 cX8_next 2 none 2 67 [.ref 117, .int (nI (48 + w0))] [] τ (fun r τ => r = none ∧ nxP f n c0 σ τ) := by
  intro k
  induction k with
  | zero =>
    intro c hc v hv τ h hF hcu hnu hst hi
    exact b1_X8_next f n c (by omega) _ v hv τ h hcu hnu (fun z => absurd z.1 (by omega)) (fun z => e1_X8_next f n c0 s w0 hs hd hw0 ew c v (by omega) hn hv σ τ hF hcu hnu hst hi z)
  | succ k ih =>
    intro c hc v hv τ h hF hcu hnu hst hi
    refine b1_X8_next f n c (by omega) _ v hv τ h hcu hnu (fun z w u hw e hu => ?_) (fun z => e1_X8_next f n c0 s w0 hs hd hw0 ew c v (by omega) hn hv σ τ hF hcu hnu hst hi z)
    have hF2 : nxF τ (wr (wr τ 117 17 (nI u)) 117 14 (nI (c + 1))) := ((nxF.rf τ).wr (by decide) _).wr (by decide) _
    refine ih (c + 1) (by omega) u (by rw [hu]; split <;> omega) _ (h.mv hF2.mls) (hF.tr hF2) (by rw [wr_at]) (by rw [wr_nj (by decide), wr_at]) (by rw [wr_nj (by decide), wr_nj (by decide)]; exact hst) ?_
    rw [hu]
    exact hi.s hw0 z
theorem nx_oth {f : Nat → Int32} {n c s : Nat} {σ ρ : Sto} {tok : Int32} (hs : skp f n c = s) (hlt : s < n) (nd : ¬ isd f n s) (F : nxF σ ρ) (st : ρ.1 117 15 = nI s) (ht : tok = tokC (f s)) : nxP f n c σ (wr (wr (wr ρ 117 16 tok) 117 17 (ltr f n s)) 117 14 (nI (s + 1))) := by
  subst hs
  refine ⟨((F.wr (by decide) _).wr (by decide) _).wr (by decide) _, by rw [wr_nj (by decide), wr_nj (by decide), wr_nj (by decide)]; exact st, Or.inr (Or.inr (Or.inr ⟨hlt, nd, ?_, ?_, by rw [wr_at]⟩))⟩
  · rw [wr_nj (by decide), wr_nj (by decide), wr_at, ht]
  · rw [wr_nj (by decide), wr_at, ltr, if_pos hlt]
theorem ltr_lt {f : Nat → Int32} {n s : Nat} (h : 0 ≤ ltr f n s) : s < n ∧ ltr f n s = f s := by
  unfold ltr at h ⊢
  by_cases z : s < n
  · exact ⟨z, if_pos z⟩
  · rw [if_neg z] at h; exact absurd h (by decide)
theorem m_X8_next {S : Scr} (f : Nat → Int32) (n c : Nat) (hc : c ≤ n) (σ : Sto) (h : txT f n σ) (hcu : σ.1 117 14 = nI c) : Mt S yX8_next cX8_next 2 none 2 [.ref 117] σ (fun r τ => r = none ∧ nxP f n c σ τ) := by
  refine mt_of (ls := [.ref 117, .null]) (by decide) rfl (Nat.le_of_ble_eq_true rfl) (by simp [Value.category]) ?_
  have hn := h.1
  refine l0_X8_next f n _ (n - c) c (by omega) σ h hcu ?_
  have hsn : skp f n c ≤ n := skp_le hc
  rw [show skF f n (n - c) c = skp f n c from rfl]
  generalize hs : skp f n c = s at hsn
  have h1 : txT f n (wr σ 117 14 (nI s)) := h.mv (mls_w (by decide))
  have h2 : txT f n (wr (wr σ 117 14 (nI s)) 117 15 (nI s)) := h1.mv (mls_w (by decide))
  have f1 : nxF σ (wr (wr σ 117 14 (nI s)) 117 15 (nI s)) := ((nxF.rf σ).wr (by decide) _).wr (by decide) _
  have f2 : nxF σ (wr (wr (wr σ 117 14 (nI s)) 117 15 (nI s)) 117 17 0) := f1.wr (by decide) _
  have h3 : txT f n (wr (wr (wr σ 117 14 (nI s)) 117 15 (nI s)) 117 17 0) := h2.mv (mls_w (by decide))
  refine ev_aload_n_0 (pc := 26) dX8_next_26 ?_
  refine ev_aload_n_0 (pc := 27) dX8_next_27 ?_
  refine ev_getI (pc := 28) dX8_next_28 fl_X8_61 (by decide) (by decide) (by decide) ?_
  rw [wr_at]
  refine ev_putI (pc := 31) dX8_next_31 fl_X8_68 (by decide) (by decide) (by decide) ?_
  refine ev_aload_n_0 (pc := 34) dX8_next_34 ?_
  refine ev_aload_n_0 (pc := 35) dX8_next_35 ?_
  refine ev_getI (pc := 36) dX8_next_36 fl_X8_61 (by decide) (by decide) (by decide) ?_
  rw [wr_nj (by decide), wr_at]
  refine ev_callV1 (pc := 39) dX8_next_39 ml_X8_64 (m_X8_letterAt f n s (by omega) _ h2) (by decide) ⟨_, rfl, rfl⟩ rfl (by decide) rfl (Nat.le_of_ble_eq_true rfl) ?_
  refine ev_istore_n_1 (pc := 42) dX8_next_42 (by decide) ?_
  refine ev_aload_n_0 (pc := 43) dX8_next_43 ?_
  refine ev_iconst (pc := 44) (v := 0) dX8_next_44 (by decide) ?_
  refine ev_putI (pc := 45) dX8_next_45 fl_X8_71 (by decide) (by decide) (by decide) ?_
  refine ev_iload_n_1 (pc := 48) dX8_next_48 ?_
  refine ev_if_ge (pc := 49) (tgt := 60) dX8_next_49 (by decide) (fun h49 => ?_) (fun h49 => ?_)
  · skip
    refine ev_iload_n_1 (pc := 60) dX8_next_60 ?_
    refine ev_callS1 (pc := 61) dX8_next_61 ml_X8_77 (m_X8_isFigure _ _) rfl (by decide) rfl (Nat.le_of_ble_eq_true rfl) ?_
    rw [bI_iff (ltr_d h.2.2.2)]
    refine ev_if_eq (pc := 64) (tgt := 173) dX8_next_64 (by decide) (fun h64 => ?_) (fun h64 => ?_)
    · skip
      refine ev_aload_n_0 (pc := 173) dX8_next_173 ?_
      refine ev_iload_n_1 (pc := 174) dX8_next_174 ?_
      refine ev_bipush (pc := 175) (v := 98) dX8_next_175 (by decide) ?_
      refine ev_icmp_eq (pc := 177) (tgt := 186) dX8_next_177 (by decide) (fun h177 => ?_) (fun h177 => ?_)
      · skip
        refine ev_iconst (pc := 186) (v := 1) dX8_next_186 (by decide) ?_
        refine ev_goto (pc := 187) (tgt := 201) dX8_next_187 (by decide) ?_
        refine ev_putI (pc := 201) dX8_next_201 fl_X8_74 (by decide) (by decide) (by decide) ?_
        refine ev_aload_n_0 (pc := 204) dX8_next_204 ?_
        refine ev_iload_n_1 (pc := 205) dX8_next_205 ?_
        refine ev_putI (pc := 206) dX8_next_206 fl_X8_71 (by decide) (by decide) (by decide) ?_
        refine ev_aload_n_0 (pc := 209) dX8_next_209 ?_
        refine ev_dup (pc := 210) dX8_next_210 rfl ?_
        refine ev_getI (pc := 211) dX8_next_211 fl_X8_61 (by decide) (by decide) (by decide) ?_
        rw [wr_nj (by decide), wr_nj (by decide), wr_nj (by decide), wr_nj (by decide), wr_at]
        refine ev_iconst (pc := 214) (v := 1) dX8_next_214 (by decide) ?_
        refine ev_iadd (pc := 215) dX8_next_215 ?_
        rw [nI_s1]
        refine ev_putI (pc := 216) dX8_next_216 fl_X8_61 (by decide) (by decide) (by decide) ?_
        exact ev_return (pc := 219) dX8_next_219 rfl (⟨rfl, nx_oth hs (ltr_lt h49).1 (bI0.mp h64) f2 (by rw [wr_nj (by decide), wr_at]) (by rw [tokC, if_pos (Or.inl ((ltr_lt h49).2.symm.trans h177))])⟩)
      · skip
        refine ev_iload_n_1 (pc := 180) dX8_next_180 ?_
        refine ev_bipush (pc := 181) (v := 112) dX8_next_181 (by decide) ?_
        refine ev_icmp_ne (pc := 183) (tgt := 190) dX8_next_183 (by decide) (fun h183 => ?_) (fun h183 => ?_)
        · skip
          refine ev_iload_n_1 (pc := 190) dX8_next_190 ?_
          refine ev_bipush (pc := 191) (v := 59) dX8_next_191 (by decide) ?_
          refine ev_icmp_ne (pc := 193) (tgt := 200) dX8_next_193 (by decide) (fun h193 => ?_) (fun h193 => ?_)
          · skip
            refine ev_iconst (pc := 200) (v := 4) dX8_next_200 (by decide) ?_
            refine ev_putI (pc := 201) dX8_next_201 fl_X8_74 (by decide) (by decide) (by decide) ?_
            refine ev_aload_n_0 (pc := 204) dX8_next_204 ?_
            refine ev_iload_n_1 (pc := 205) dX8_next_205 ?_
            refine ev_putI (pc := 206) dX8_next_206 fl_X8_71 (by decide) (by decide) (by decide) ?_
            refine ev_aload_n_0 (pc := 209) dX8_next_209 ?_
            refine ev_dup (pc := 210) dX8_next_210 rfl ?_
            refine ev_getI (pc := 211) dX8_next_211 fl_X8_61 (by decide) (by decide) (by decide) ?_
            rw [wr_nj (by decide), wr_nj (by decide), wr_nj (by decide), wr_nj (by decide), wr_at]
            refine ev_iconst (pc := 214) (v := 1) dX8_next_214 (by decide) ?_
            refine ev_iadd (pc := 215) dX8_next_215 ?_
            rw [nI_s1]
            refine ev_putI (pc := 216) dX8_next_216 fl_X8_61 (by decide) (by decide) (by decide) ?_
            exact ev_return (pc := 219) dX8_next_219 rfl (⟨rfl, nx_oth hs (ltr_lt h49).1 (bI0.mp h64) f2 (by rw [wr_nj (by decide), wr_at]) (by rw [tokC, if_neg (fun z => z.elim (fun y => h177 ((ltr_lt h49).2.trans y)) (fun y => h183 ((ltr_lt h49).2.trans y))), if_neg (fun y => h193 ((ltr_lt h49).2.trans y))])⟩)
          · skip
            refine ev_iconst (pc := 196) (v := 3) dX8_next_196 (by decide) ?_
            refine ev_goto (pc := 197) (tgt := 201) dX8_next_197 (by decide) ?_
            refine ev_putI (pc := 201) dX8_next_201 fl_X8_74 (by decide) (by decide) (by decide) ?_
            refine ev_aload_n_0 (pc := 204) dX8_next_204 ?_
            refine ev_iload_n_1 (pc := 205) dX8_next_205 ?_
            refine ev_putI (pc := 206) dX8_next_206 fl_X8_71 (by decide) (by decide) (by decide) ?_
            refine ev_aload_n_0 (pc := 209) dX8_next_209 ?_
            refine ev_dup (pc := 210) dX8_next_210 rfl ?_
            refine ev_getI (pc := 211) dX8_next_211 fl_X8_61 (by decide) (by decide) (by decide) ?_
            rw [wr_nj (by decide), wr_nj (by decide), wr_nj (by decide), wr_nj (by decide), wr_at]
            refine ev_iconst (pc := 214) (v := 1) dX8_next_214 (by decide) ?_
            refine ev_iadd (pc := 215) dX8_next_215 ?_
            rw [nI_s1]
            refine ev_putI (pc := 216) dX8_next_216 fl_X8_61 (by decide) (by decide) (by decide) ?_
            exact ev_return (pc := 219) dX8_next_219 rfl (⟨rfl, nx_oth hs (ltr_lt h49).1 (bI0.mp h64) f2 (by rw [wr_nj (by decide), wr_at]) (by rw [tokC, if_neg (fun z => z.elim (fun y => h177 ((ltr_lt h49).2.trans y)) (fun y => h183 ((ltr_lt h49).2.trans y))), if_pos ((ltr_lt h49).2.symm.trans h193)])⟩)
        · skip
          refine ev_iconst (pc := 186) (v := 1) dX8_next_186 (by decide) ?_
          refine ev_goto (pc := 187) (tgt := 201) dX8_next_187 (by decide) ?_
          refine ev_putI (pc := 201) dX8_next_201 fl_X8_74 (by decide) (by decide) (by decide) ?_
          refine ev_aload_n_0 (pc := 204) dX8_next_204 ?_
          refine ev_iload_n_1 (pc := 205) dX8_next_205 ?_
          refine ev_putI (pc := 206) dX8_next_206 fl_X8_71 (by decide) (by decide) (by decide) ?_
          refine ev_aload_n_0 (pc := 209) dX8_next_209 ?_
          refine ev_dup (pc := 210) dX8_next_210 rfl ?_
          refine ev_getI (pc := 211) dX8_next_211 fl_X8_61 (by decide) (by decide) (by decide) ?_
          rw [wr_nj (by decide), wr_nj (by decide), wr_nj (by decide), wr_nj (by decide), wr_at]
          refine ev_iconst (pc := 214) (v := 1) dX8_next_214 (by decide) ?_
          refine ev_iadd (pc := 215) dX8_next_215 ?_
          rw [nI_s1]
          refine ev_putI (pc := 216) dX8_next_216 fl_X8_61 (by decide) (by decide) (by decide) ?_
          exact ev_return (pc := 219) dX8_next_219 rfl (⟨rfl, nx_oth hs (ltr_lt h49).1 (bI0.mp h64) f2 (by rw [wr_nj (by decide), wr_at]) (by rw [tokC, if_pos (Or.inr ((ltr_lt h49).2.symm.trans h183))])⟩)
    · skip
      have hd : isd f n s := Decidable.not_not.mp (fun z => h64 (bI0.mpr z))
      obtain ⟨w0, hw0, ew⟩ := fig hd
      rw [(ltr_lt h49).2, ew]
      refine b1_X8_next f n s (by omega) _ 0 (by decide) _ h3 (by rw [wr_nj (by decide), wr_nj (by decide), wr_at]) (by rw [wr_at]; rfl) (fun z w u hw e hu => ?_) (fun z => absurd hd z)
      have ew2 : w = w0 := by have := nI_inj (e.symm.trans ew) (by omega) (by omega); omega
      rw [if_neg (by decide), Nat.mul_zero, Nat.zero_add] at hu
      have hF2 : nxF (wr (wr (wr σ 117 14 (nI s)) 117 15 (nI s)) 117 17 0) (wr (wr (wr (wr (wr σ 117 14 (nI s)) 117 15 (nI s)) 117 17 0) 117 17 (nI u)) 117 14 (nI (s + 1))) := ((nxF.rf _).wr (by decide) _).wr (by decide) _
      exact l1_X8_next f n c s w0 hs.symm hd hw0 ew hn σ (n - (s + 1)) (s + 1) (by have := hd.1; omega) u (by omega) _ (h3.mv hF2.mls) (f2.tr hF2) (by rw [wr_at]) (by rw [wr_nj (by decide), wr_at]) (by rw [wr_nj (by decide), wr_nj (by decide), wr_nj (by decide), wr_at]) (Or.inl ⟨rfl, by omega⟩)
  · skip
    refine ev_aload_n_0 (pc := 52) dX8_next_52 ?_
    refine ev_iconst (pc := 53) (v := 0) dX8_next_53 (by decide) ?_
    refine ev_putI (pc := 54) dX8_next_54 fl_X8_74 (by decide) (by decide) (by decide) ?_
    refine ev_goto (pc := 57) (tgt := 219) dX8_next_57 (by decide) ?_
    exact ev_return (pc := 219) dX8_next_219 rfl (⟨rfl, f2.wr (by decide) _, by rw [wr_nj (by decide), wr_nj (by decide), wr_at, hs], Or.inl ⟨by rw [hs]; intro z; apply h49; rw [ltr, if_pos z]; exact (h.2.2.2 s z).1, by rw [wr_at]⟩⟩)
