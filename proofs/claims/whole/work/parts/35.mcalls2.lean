/-! ===== the reference: calls, 2 ===== -/
theorem RW.cur {A : Abs} {s : Scn} {τ τ' : Sto} (h : RW A τ) (g1 : τ'.2 = τ.2) (g2 : ∀ c, 117 ≤ c → c ≤ 126 → c ≠ 120 → τ'.1 c = τ.1 c) (hm : mrow τ' 120 0 (aN A) s) : RW (setC A s) τ' := by
  obtain ⟨b, c, p, i, q, t, r⟩ := h
  have e := g2 117 (by decide) (by decide) (by decide)
  exact ⟨b.mv (by rw [e]) (g2 118 (by decide) (by decide) (by decide)) (g2 119 (by decide) (by decide) (by decide)), hm, p.mv (by rw [e]) (g2 121 (by decide) (by decide) (by decide)), i.mv (g2 123 (by decide) (by decide) (by decide)) (g2 122 (by decide) (by decide) (by decide)), q.mv (by rw [e]) (g2 124 (by decide) (by decide) (by decide)) (g2 125 (by decide) (by decide) (by decide)), t.mv (by rw [e]) (g2 126 (by decide) (by decide) (by decide)), by rw [g1]; exact r⟩
theorem RW.now {A : Abs} {σ : Sto} (h : RW A σ) (hn : aN A ≤ 6) : mrow (nowW σ) 129 0 (aN A) (aC A) := mrow.cp hn h.2.1
theorem RW.nwR {A : Abs} {σ : Sto} (h : RW A σ) (hn : aN A ≤ 6) (hs : okS (aC A)) : nwR A (nowW σ) (aC A) := ⟨hn, h.1.mv (by rw [cpk_ne (by decide)]) (cpk_ne (by decide)) (cpk_ne (by decide)), h.now hn, hs⟩
theorem mrow.wrt {τ : Sto} {n : Nat} {s s' : Scn} {j : Nat} {x : Int32} (h : mrow τ 120 0 n s) (h1 : ∀ p, p < 4 → s'.1 p = if p = j then x else s.1 p) (h2 : cldD s'.2.1 = if 4 = j then x else cldD s.2.1) (h3 : ∀ b, b < n → s'.2.2 b = if 5 + b = j then x else s.2.2 b) : mrow (wr τ 120 j x) 120 0 n s' := by
  have e : ∀ k, (wr τ 120 j x).1 120 k = if k = j then x else τ.1 120 k := fun k => by unfold wr; simp
  refine ⟨fun p hp => ?_, ?_, fun b hb => ?_⟩
  · have := h.1 p hp; rw [Nat.zero_add] at this ⊢; rw [e, h1 p hp, this]
  · have := h.2.1; rw [Nat.zero_add] at this ⊢; rw [e, h2, this]
  · have := h.2.2 b hb; rw [Nat.zero_add] at this ⊢; rw [e, h3 b hb, this]
theorem rw_wr {A : Abs} {τ : Sto} {j : Nat} {x : Int32} {s : Scn} (h : RW A τ) (hm : mrow (wr τ 120 j x) 120 0 (aN A) s) : RW (setC A s) (wr τ 120 j x) := h.cur rfl (fun c _ _ hc => wr_ne hc) hm
theorem five_ne {A : Abs} (h : AI A) {p : Nat} (hp : p < 4) : (aC A).1 p = 5 ↔ 5 ≤ (aC A).1 p := by
  obtain ⟨v, hv, e⟩ := h.2.2.1.1 p hp
  rw [e]
  exact (by decide +kernel : ∀ v, v ≤ 5 → (nI v = 5 ↔ 5 ≤ nI v)) v hv
theorem eq_lem {P : Prop} {v w : Int32} (e : v = w) (h : P) : some (Value.int v) = some (.int w) ∧ P := ⟨by rw [e], h⟩
set_option maxRecDepth 100000 in
theorem m_X8_adds {S : Scr} {A : Abs} (p : Nat) (hp : p < 4) (hl : ¬ 5 ≤ (aC A).1 p) (σ : Sto) (h : RM A σ) (hA : AI (setC (remA A) (addS (aC A) p))) : Mt S yX8_adds cX8_adds 2 (some .int) 3 [.ref 117, .int (nI p)] σ (PM (setC (remA A) (addS (aC A) p)) σ ((aC A).1 p + 1)) := by
  refine mt_of (ls := [.ref 117, .int (nI p)]) (by decide) rfl (Nat.le_of_ble_eq_true rfl) (by simp [Value.category]) ?_
  refine ev_iload_n_1 (pc := 0) dX8_adds_0 ?_
  refine ev_callS1 (pc := 1) dX8_adds_1 ml_X8_151 (m_X8_isPart _ σ) rfl (by decide) rfl (Nat.le_of_ble_eq_true rfl) ?_
  rw [bI_t (okP_nI p hp)]
  refine ev_if_ne (pc := 4) (tgt := 9) dX8_adds_4 (by decide) (fun h4 => ?_) (fun h4 => by exact absurd h4 (by decide))
  refine ev_aload_n_0 (pc := 9) dX8_adds_9 ?_
  refine ev_getR (pc := 10) (r := 120) dX8_adds_10 fl_X8_16 (by decide) (by decide) (by decide) (by decide) ?_
  refine ev_iconst (pc := 13) (v := 0) dX8_adds_13 (by decide) ?_
  refine ev_iload_n_1 (pc := 14) dX8_adds_14 ?_
  refine ev_iaddc (pc := 15) (v := nI p) dX8_adds_15 (nI_zadd p) ?_
  refine ev_iaload' (pc := 16) (j := p) dX8_adds_16 (by decide) (by decide) (show vp_in _ 11 from (vp_in_nI (by omega) (by decide))) (nI_clamp (by omega)) ?_
  rw [h.potE hp]
  refine ev_iconst (pc := 17) (v := 5) dX8_adds_17 (by decide) ?_
  refine ev_icmp_ne (pc := 18) (tgt := 24) dX8_adds_18 (by decide) (fun h18 => ?_) (fun h18 => by exact absurd ((five_ne h.1 hp).mp h18) hl)
  refine ev_aload_n_0 (pc := 24) dX8_adds_24 ?_
  refine ev_callV (pc := 25) dX8_adds_25 ml_X8_167 (m_X8_remembers σ h) (by decide) ⟨_, rfl, rfl⟩ rfl (by decide) rfl (Nat.le_of_ble_eq_true rfl) ?_
  rintro r τ ⟨rfl, hR, hF⟩
  refine ev_aload_n_0 (pc := 28) dX8_adds_28 ?_
  refine ev_getR (pc := 29) (r := 120) dX8_adds_29 fl_X8_16 (by decide) (by decide) (by decide) (by decide) ?_
  refine ev_iconst (pc := 32) (v := 0) dX8_adds_32 (by decide) ?_
  refine ev_iload_n_1 (pc := 33) dX8_adds_33 ?_
  refine ev_iaddc (pc := 34) (v := nI p) dX8_adds_34 (nI_zadd p) ?_
  refine ev_dup2 (pc := 35) dX8_adds_35 rfl rfl ?_
  refine ev_iaload' (pc := 36) (j := p) dX8_adds_36 (by decide) (by decide) (show vp_in _ 11 from (vp_in_nI (by omega) (by decide))) (nI_clamp (by omega)) ?_
  refine ev_iconst (pc := 37) (v := 1) dX8_adds_37 (by decide) ?_
  refine ev_iadd (pc := 38) dX8_adds_38 ?_
  refine ev_iastore' (pc := 39) (j := p) dX8_adds_39 (by decide) (by decide) (show vp_in _ 11 from (vp_in_nI (by omega) (by decide))) (nI_clamp (by omega)) ?_
  refine ev_aload_n_0 (pc := 40) dX8_adds_40 ?_
  refine ev_getR (pc := 41) (r := 120) dX8_adds_41 fl_X8_16 (by decide) (by decide) (by decide) (by decide) ?_
  refine ev_iconst (pc := 44) (v := 0) dX8_adds_44 (by decide) ?_
  refine ev_iload_n_1 (pc := 45) dX8_adds_45 ?_
  refine ev_iaddc (pc := 46) (v := nI p) dX8_adds_46 (nI_zadd p) ?_
  refine ev_iaload' (pc := 47) (j := p) dX8_adds_47 (by decide) (by decide) (show vp_in _ 11 from (vp_in_nI (by omega) (by decide))) (nI_clamp (by omega)) ?_
  exact ev_ireturn (pc := 48) dX8_adds_48 rfl rfl (⟨by rw [wr_at, hF.2.1 120 (by decide) (by decide), h.potE hp], ⟨hA, rw_wr hR (hR.2.1.wrt (fun q hq => by rw [hF.2.1 120 (by decide) (by decide), h.potE hp]) (by rw [if_neg (by omega)]) (fun b hb => by rw [if_neg (by omega)]))⟩, hF.fr.tr (frM_wr (by decide))⟩)
set_option maxRecDepth 100000 in
theorem m_X8_adds1 {S : Scr} {A : Abs} (p : Nat) (hp : p < 4) (hl : 5 ≤ (aC A).1 p) (σ : Sto) (h : RM A σ) : Mt S yX8_adds cX8_adds 2 (some .int) 3 [.ref 117, .int (nI p)] σ (Is (some (.int (-2))) σ) := by
  refine mt_of (ls := [.ref 117, .int (nI p)]) (by decide) rfl (Nat.le_of_ble_eq_true rfl) (by simp [Value.category]) ?_
  refine ev_iload_n_1 (pc := 0) dX8_adds_0 ?_
  refine ev_callS1 (pc := 1) dX8_adds_1 ml_X8_151 (m_X8_isPart _ σ) rfl (by decide) rfl (Nat.le_of_ble_eq_true rfl) ?_
  rw [bI_t (okP_nI p hp)]
  refine ev_if_ne (pc := 4) (tgt := 9) dX8_adds_4 (by decide) (fun h4 => ?_) (fun h4 => by exact absurd h4 (by decide))
  refine ev_aload_n_0 (pc := 9) dX8_adds_9 ?_
  refine ev_getR (pc := 10) (r := 120) dX8_adds_10 fl_X8_16 (by decide) (by decide) (by decide) (by decide) ?_
  refine ev_iconst (pc := 13) (v := 0) dX8_adds_13 (by decide) ?_
  refine ev_iload_n_1 (pc := 14) dX8_adds_14 ?_
  refine ev_iaddc (pc := 15) (v := nI p) dX8_adds_15 (nI_zadd p) ?_
  refine ev_iaload' (pc := 16) (j := p) dX8_adds_16 (by decide) (by decide) (show vp_in _ 11 from (vp_in_nI (by omega) (by decide))) (nI_clamp (by omega)) ?_
  rw [h.potE hp]
  refine ev_iconst (pc := 17) (v := 5) dX8_adds_17 (by decide) ?_
  refine ev_icmp_ne (pc := 18) (tgt := 24) dX8_adds_18 (by decide) (fun h18 => by exact absurd ((five_ne h.1 hp).mpr hl) h18) (fun h18 => ?_)
  refine ev_bipush (pc := 21) (v := (-2)) dX8_adds_21 (by decide) ?_
  exact ev_ireturn (pc := 23) dX8_adds_23 rfl rfl (⟨rfl, rfl⟩)
set_option maxRecDepth 100000 in
theorem m_X8_adds0 {S : Scr} (p : Int32) (hp : ¬ okP p) (σ : Sto) : Mt S yX8_adds cX8_adds 2 (some .int) 3 [.ref 117, .int p] σ (Is (some (.int (-1))) σ) := by
  refine mt_of (ls := [.ref 117, .int p]) (by decide) rfl (Nat.le_of_ble_eq_true rfl) (by simp [Value.category]) ?_
  refine ev_iload_n_1 (pc := 0) dX8_adds_0 ?_
  refine ev_callS1 (pc := 1) dX8_adds_1 ml_X8_151 (m_X8_isPart _ σ) rfl (by decide) rfl (Nat.le_of_ble_eq_true rfl) ?_
  rw [bI_f hp]
  refine ev_if_ne (pc := 4) (tgt := 9) dX8_adds_4 (by decide) (fun h4 => by exact absurd rfl h4) (fun h4 => ?_)
  refine ev_iconst (pc := 7) (v := (-1)) dX8_adds_7 (by decide) ?_
  exact ev_ireturn (pc := 8) dX8_adds_8 rfl rfl (⟨rfl, rfl⟩)
set_option maxRecDepth 100000 in
theorem m_X8_sends {S : Scr} {A : Abs} (b : Nat) (hb : b < aN A) (σ : Sto) (h : RM A σ) (hA : AI (setC (remA A) (shwS (aC A) b (mienA A b)))) : Mt S yX8_sends cX8_sends 2 (some .int) 4 [.ref 117, .int (nI b)] σ (PM (setC (remA A) (shwS (aC A) b (mienA A b))) σ (mienA A b)) := by
  refine mt_of (ls := [.ref 117, .int (nI b)]) (by decide) rfl (Nat.le_of_ble_eq_true rfl) (by simp [Value.category]) ?_
  have hb6 : b < 6 := Nat.lt_of_lt_of_le hb h.n6
  refine ev_aload_n_0 (pc := 0) dX8_sends_0 ?_
  refine ev_iload_n_1 (pc := 1) dX8_sends_1 ?_
  refine ev_callV1 (pc := 2) dX8_sends_2 ml_X8_154 (m_X8_isBrother _ σ h) (by decide) ⟨_, rfl, rfl⟩ rfl (by decide) rfl (Nat.le_of_ble_eq_true rfl) ?_
  rw [brE h.1 hb]
  refine ev_if_ne (pc := 5) (tgt := 10) dX8_sends_5 (by decide) (fun h5 => ?_) (fun h5 => by exact absurd h5 (by decide))
  refine ev_aload_n_0 (pc := 10) dX8_sends_10 ?_
  refine ev_callV (pc := 11) dX8_sends_11 ml_X8_167 (m_X8_remembers σ h) (by decide) ⟨_, rfl, rfl⟩ rfl (by decide) rfl (Nat.le_of_ble_eq_true rfl) ?_
  rintro r τ ⟨rfl, hR, hF⟩
  refine ev_aload_n_0 (pc := 14) dX8_sends_14 ?_
  refine ev_callV0 (pc := 15) dX8_sends_15 ml_X8_157 (m_X8_asItIs τ) (by decide) ⟨_, rfl, rfl⟩ rfl (by decide) rfl (Nat.le_of_ble_eq_true rfl) ?_
  refine ev_aload_n_0 (pc := 18) dX8_sends_18 ?_
  refine ev_getR (pc := 19) (r := 120) dX8_sends_19 fl_X8_16 (by decide) (by decide) (by decide) (by decide) ?_
  refine ev_iconst (pc := 22) (v := 5) dX8_sends_22 (by decide) ?_
  refine ev_iload_n_1 (pc := 23) dX8_sends_23 ?_
  refine ev_iaddc (pc := 24) (v := nI (5 + b)) dX8_sends_24 (nI_add 5 b) ?_
  refine ev_aload_n_0 (pc := 25) dX8_sends_25 ?_
  refine ev_iload_n_1 (pc := 26) dX8_sends_26 ?_
  refine ev_callV1 (pc := 27) dX8_sends_27 ml_X8_141 (m_X8_mien b hb _ (RW.nwR (A := remA A) hR h.n6 h.1.2.2.1)) (by decide) ⟨_, rfl, rfl⟩ rfl (by decide) rfl (Nat.le_of_ble_eq_true rfl) ?_
  refine ev_iastore' (pc := 30) (j := (5 + b)) dX8_sends_30 (by decide) (by decide) (show vp_in _ 11 from (vp_in_nI (by omega) (by decide))) (nI_clamp (by omega)) ?_
  refine ev_aload_n_0 (pc := 31) dX8_sends_31 ?_
  refine ev_getR (pc := 32) (r := 120) dX8_sends_32 fl_X8_16 (by decide) (by decide) (by decide) (by decide) ?_
  refine ev_iconst (pc := 35) (v := 5) dX8_sends_35 (by decide) ?_
  refine ev_iload_n_1 (pc := 36) dX8_sends_36 ?_
  refine ev_iaddc (pc := 37) (v := nI (5 + b)) dX8_sends_37 (nI_add 5 b) ?_
  refine ev_iaload' (pc := 38) (j := (5 + b)) dX8_sends_38 (by decide) (by decide) (show vp_in _ 11 from (vp_in_nI (by omega) (by decide))) (nI_clamp (by omega)) ?_
  exact ev_ireturn (pc := 39) dX8_sends_39 rfl rfl (⟨by rw [wr_at], ⟨hA, rw_wr (RW.cur (s := aC A) hR rfl (fun c h1 h2 _ => cpk_ne (by omega)) (hR.2.1.mv (cpk_ne (by decide)))) ((hR.2.1.mv (cpk_ne (by decide))).wrt (fun q hq => by rw [if_neg (by omega)]) (by rw [if_neg (by omega)]) (fun c hc => by show (if c = b then _ else _) = _; by_cases z : c = b; rw [if_pos z, if_pos (by omega)]; rw [if_neg z, if_neg (by omega)]))⟩, (hF.fr.tr (mls_now τ).fr).tr (frM_wr (by decide))⟩)
set_option maxRecDepth 100000 in
theorem m_X8_sends0 {S : Scr} {A : Abs} (b : Int32) (hb : ¬ okB A b) (σ : Sto) (h : RM A σ) : Mt S yX8_sends cX8_sends 2 (some .int) 4 [.ref 117, .int b] σ (Is (some (.int (-1))) σ) := by
  refine mt_of (ls := [.ref 117, .int b]) (by decide) rfl (Nat.le_of_ble_eq_true rfl) (by simp [Value.category]) ?_
  refine ev_aload_n_0 (pc := 0) dX8_sends_0 ?_
  refine ev_iload_n_1 (pc := 1) dX8_sends_1 ?_
  refine ev_callV1 (pc := 2) dX8_sends_2 ml_X8_154 (m_X8_isBrother _ σ h) (by decide) ⟨_, rfl, rfl⟩ rfl (by decide) rfl (Nat.le_of_ble_eq_true rfl) ?_
  rw [bI_f hb]
  refine ev_if_ne (pc := 5) (tgt := 10) dX8_sends_5 (by decide) (fun h5 => by exact absurd rfl h5) (fun h5 => ?_)
  refine ev_iconst (pc := 8) (v := (-1)) dX8_sends_8 (by decide) ?_
  exact ev_ireturn (pc := 9) dX8_sends_9 rfl rfl (⟨rfl, rfl⟩)
set_option maxRecDepth 100000 in
theorem m_X8_colds {S : Scr} {A : Abs} (b : Nat) (hb : b < aN A) (x : Int32) (hx1 : x = 0 ∨ x = 1) (hl : ¬ (aC A).2.1 b = x) (σ : Sto) (h : RM A σ) (hA : AI (setC (remA A) (cldS (aC A) b x))) : Mt S yX8_colds cX8_colds 3 (some .int) 3 [.ref 117, .int (nI b), .int x] σ (PM (setC (remA A) (cldS (aC A) b x)) σ (bcD (cldD (cldS (aC A) b x).2.1))) := by
  refine mt_of (ls := [.ref 117, .int (nI b), .int x]) (by decide) rfl (Nat.le_of_ble_eq_true rfl) (by simp [Value.category]) ?_
  have hb6 : b < 6 := Nat.lt_of_lt_of_le hb h.n6
  have hin : bI ((0 : Int32) ≤ x ∧ x ≤ 1) = 1 := by rcases hx1 with rfl | rfl <;> decide
  have hxr := cld_xor h.c01 hb6 hx1 hl
  refine ev_aload_n_0 (pc := 0) dX8_colds_0 ?_
  refine ev_iload_n_1 (pc := 1) dX8_colds_1 ?_
  refine ev_callV1 (pc := 2) dX8_colds_2 ml_X8_154 (m_X8_isBrother _ σ h) (by decide) ⟨_, rfl, rfl⟩ rfl (by decide) rfl (Nat.le_of_ble_eq_true rfl) ?_
  rw [brE h.1 hb]
  refine ev_if_eq (pc := 5) (tgt := 17) dX8_colds_5 (by decide) (fun h5 => by exact absurd h5 (by decide)) (fun h5 => ?_)
  refine ev_iload_n_2 (pc := 8) dX8_colds_8 ?_
  refine ev_iconst (pc := 9) (v := 0) dX8_colds_9 (by decide) ?_
  refine ev_iconst (pc := 10) (v := 1) dX8_colds_10 (by decide) ?_
  refine ev_callS1 (pc := 11) dX8_colds_11 ml_X8_54 (m_X8_in _ _ _ σ) rfl (by decide) rfl (Nat.le_of_ble_eq_true rfl) ?_
  rw [hin]
  refine ev_if_ne (pc := 14) (tgt := 19) dX8_colds_14 (by decide) (fun h14 => ?_) (fun h14 => by exact absurd h14 (by decide))
  refine ev_aload_n_0 (pc := 19) dX8_colds_19 ?_
  refine ev_getR (pc := 20) (r := 120) dX8_colds_20 fl_X8_16 (by decide) (by decide) (by decide) (by decide) ?_
  refine ev_iconst (pc := 23) (v := 4) dX8_colds_23 (by decide) ?_
  refine ev_iaload' (pc := 24) (j := 4) dX8_colds_24 (by decide) (by decide) (show vp_in _ 11 from (vin_c (by decide))) (by decide) ?_
  rw [h.coldE]
  refine ev_iload_n_1 (pc := 25) dX8_colds_25 ?_
  refine ev_ishr (pc := 26) dX8_colds_26 ?_
  refine ev_iconst (pc := 27) (v := 1) dX8_colds_27 (by decide) ?_
  refine ev_iand (pc := 28) dX8_colds_28 ?_
  rw [cld_bit h.c01 hb6]
  refine ev_iload_n_2 (pc := 29) dX8_colds_29 ?_
  refine ev_icmp_ne (pc := 30) (tgt := 36) dX8_colds_30 (by decide) (fun h30 => ?_) (fun h30 => by exact absurd h30 hl)
  refine ev_aload_n_0 (pc := 36) dX8_colds_36 ?_
  refine ev_callV (pc := 37) dX8_colds_37 ml_X8_167 (m_X8_remembers σ h) (by decide) ⟨_, rfl, rfl⟩ rfl (by decide) rfl (Nat.le_of_ble_eq_true rfl) ?_
  rintro r τ ⟨rfl, hR, hF⟩
  refine ev_aload_n_0 (pc := 40) dX8_colds_40 ?_
  refine ev_getR (pc := 41) (r := 120) dX8_colds_41 fl_X8_16 (by decide) (by decide) (by decide) (by decide) ?_
  refine ev_iconst (pc := 44) (v := 4) dX8_colds_44 (by decide) ?_
  refine ev_dup2 (pc := 45) dX8_colds_45 rfl rfl ?_
  refine ev_iaload' (pc := 46) (j := 4) dX8_colds_46 (by decide) (by decide) (show vp_in _ 11 from (vin_c (by decide))) (by decide) ?_
  refine ev_iconst (pc := 47) (v := 1) dX8_colds_47 (by decide) ?_
  refine ev_iload_n_1 (pc := 48) dX8_colds_48 ?_
  refine ev_ishl (pc := 49) dX8_colds_49 ?_
  refine ev_ixor (pc := 50) dX8_colds_50 ?_
  refine ev_iastore' (pc := 51) (j := 4) dX8_colds_51 (by decide) (by decide) (show vp_in _ 11 from (vin_c (by decide))) (by decide) ?_
  refine ev_aload_n_0 (pc := 52) dX8_colds_52 ?_
  refine ev_getR (pc := 53) (r := 120) dX8_colds_53 fl_X8_16 (by decide) (by decide) (by decide) (by decide) ?_
  refine ev_iconst (pc := 56) (v := 4) dX8_colds_56 (by decide) ?_
  refine ev_iaload' (pc := 57) (j := 4) dX8_colds_57 (by decide) (by decide) (show vp_in _ 11 from (vin_c (by decide))) (by decide) ?_
  refine ev_callS1 (pc := 58) dX8_colds_58 ml_X8_174 (m_X8_bits _ _) rfl (by decide) rfl (Nat.le_of_ble_eq_true rfl) ?_
  exact ev_ireturn (pc := 61) dX8_colds_61 rfl rfl (⟨by rw [wr_at, hF.2.1 120 (by decide) (by decide), h.coldE, hxr]; exact congrArg (fun z => some (Value.int z)) (bt_cld hA.2.2.1.2), ⟨hA, rw_wr hR (hR.2.1.wrt (fun q hq => by rw [if_neg (by omega)]) (by rw [if_pos rfl, hF.2.1 120 (by decide) (by decide), h.coldE, hxr]) (fun c hc => by rw [if_neg (by omega)]))⟩, hF.fr.tr (frM_wr (by decide))⟩)
set_option maxRecDepth 100000 in
theorem m_X8_colds1 {S : Scr} {A : Abs} (b : Nat) (hb : b < aN A) (x : Int32) (hx1 : x = 0 ∨ x = 1) (hl : (aC A).2.1 b = x) (σ : Sto) (h : RM A σ) : Mt S yX8_colds cX8_colds 3 (some .int) 3 [.ref 117, .int (nI b), .int x] σ (Is (some (.int (-2))) σ) := by
  refine mt_of (ls := [.ref 117, .int (nI b), .int x]) (by decide) rfl (Nat.le_of_ble_eq_true rfl) (by simp [Value.category]) ?_
  have hb6 : b < 6 := Nat.lt_of_lt_of_le hb h.n6
  have hin : bI ((0 : Int32) ≤ x ∧ x ≤ 1) = 1 := by rcases hx1 with rfl | rfl <;> decide
  refine ev_aload_n_0 (pc := 0) dX8_colds_0 ?_
  refine ev_iload_n_1 (pc := 1) dX8_colds_1 ?_
  refine ev_callV1 (pc := 2) dX8_colds_2 ml_X8_154 (m_X8_isBrother _ σ h) (by decide) ⟨_, rfl, rfl⟩ rfl (by decide) rfl (Nat.le_of_ble_eq_true rfl) ?_
  rw [brE h.1 hb]
  refine ev_if_eq (pc := 5) (tgt := 17) dX8_colds_5 (by decide) (fun h5 => by exact absurd h5 (by decide)) (fun h5 => ?_)
  refine ev_iload_n_2 (pc := 8) dX8_colds_8 ?_
  refine ev_iconst (pc := 9) (v := 0) dX8_colds_9 (by decide) ?_
  refine ev_iconst (pc := 10) (v := 1) dX8_colds_10 (by decide) ?_
  refine ev_callS1 (pc := 11) dX8_colds_11 ml_X8_54 (m_X8_in _ _ _ σ) rfl (by decide) rfl (Nat.le_of_ble_eq_true rfl) ?_
  rw [hin]
  refine ev_if_ne (pc := 14) (tgt := 19) dX8_colds_14 (by decide) (fun h14 => ?_) (fun h14 => by exact absurd h14 (by decide))
  refine ev_aload_n_0 (pc := 19) dX8_colds_19 ?_
  refine ev_getR (pc := 20) (r := 120) dX8_colds_20 fl_X8_16 (by decide) (by decide) (by decide) (by decide) ?_
  refine ev_iconst (pc := 23) (v := 4) dX8_colds_23 (by decide) ?_
  refine ev_iaload' (pc := 24) (j := 4) dX8_colds_24 (by decide) (by decide) (show vp_in _ 11 from (vin_c (by decide))) (by decide) ?_
  rw [h.coldE]
  refine ev_iload_n_1 (pc := 25) dX8_colds_25 ?_
  refine ev_ishr (pc := 26) dX8_colds_26 ?_
  refine ev_iconst (pc := 27) (v := 1) dX8_colds_27 (by decide) ?_
  refine ev_iand (pc := 28) dX8_colds_28 ?_
  rw [cld_bit h.c01 hb6]
  refine ev_iload_n_2 (pc := 29) dX8_colds_29 ?_
  refine ev_icmp_ne (pc := 30) (tgt := 36) dX8_colds_30 (by decide) (fun h30 => by exact absurd hl h30) (fun h30 => ?_)
  refine ev_bipush (pc := 33) (v := (-2)) dX8_colds_33 (by decide) ?_
  exact ev_ireturn (pc := 35) dX8_colds_35 rfl rfl (⟨rfl, rfl⟩)
set_option maxRecDepth 100000 in
theorem m_X8_colds0 {S : Scr} {A : Abs} (b x : Int32) (hb : ¬ (okB A b ∧ ¬ x < 0 ∧ x ≤ 1)) (σ : Sto) (h : RM A σ) : Mt S yX8_colds cX8_colds 3 (some .int) 3 [.ref 117, .int b, .int x] σ (Is (some (.int (-1))) σ) := by
  refine mt_of (ls := [.ref 117, .int b, .int x]) (by decide) rfl (Nat.le_of_ble_eq_true rfl) (by simp [Value.category]) ?_
  refine ev_aload_n_0 (pc := 0) dX8_colds_0 ?_
  refine ev_iload_n_1 (pc := 1) dX8_colds_1 ?_
  refine ev_callV1 (pc := 2) dX8_colds_2 ml_X8_154 (m_X8_isBrother _ σ h) (by decide) ⟨_, rfl, rfl⟩ rfl (by decide) rfl (Nat.le_of_ble_eq_true rfl) ?_
  refine ev_if_eq (pc := 5) (tgt := 17) dX8_colds_5 (by decide) (fun h5 => ?_) (fun h5 => ?_)
  · skip
    refine ev_iconst (pc := 17) (v := (-1)) dX8_colds_17 (by decide) ?_
    exact ev_ireturn (pc := 18) dX8_colds_18 rfl rfl (⟨rfl, rfl⟩)
  · skip
    refine ev_iload_n_2 (pc := 8) dX8_colds_8 ?_
    refine ev_iconst (pc := 9) (v := 0) dX8_colds_9 (by decide) ?_
    refine ev_iconst (pc := 10) (v := 1) dX8_colds_10 (by decide) ?_
    refine ev_callS1 (pc := 11) dX8_colds_11 ml_X8_54 (m_X8_in _ _ _ σ) rfl (by decide) rfl (Nat.le_of_ble_eq_true rfl) ?_
    refine ev_if_ne (pc := 14) (tgt := 19) dX8_colds_14 (by decide) (fun h14 => ?_) (fun h14 => ?_)
    · skip
      exact absurd ⟨Decidable.not_not.mp (fun z => h5 (bI_f z)), Int32.not_lt.mpr (Decidable.not_not.mp (fun z => h14 (bI_f z))).1, (Decidable.not_not.mp (fun z => h14 (bI_f z))).2⟩ hb
    · skip
      refine ev_iconst (pc := 17) (v := (-1)) dX8_colds_17 (by decide) ?_
      exact ev_ireturn (pc := 18) dX8_colds_18 rfl rfl (⟨rfl, rfl⟩)
theorem wat_ds : ∀ v, v ≤ 5 → (if nI v ≤ 0 then nI v else nI v - 1) = mxI 0 (nI v - 1) := by decide +kernel
theorem ds_wat {s : Scn} (h : okS s) {p : Nat} (hp : p < 4) : dsF s.1 4 p = (watSc s).1 p := by
  obtain ⟨v, hv, e⟩ := h.1 p hp
  show dsF s.1 4 p = mxI 0 (s.1 p - 1)
  unfold dsF
  rw [if_neg (by omega), if_pos rfl, e]
  exact wat_ds v hv
theorem mrow.ds {τ : Sto} {n d : Nat} {s : Scn} (h : mrow τ 129 0 n s) : mrow (dsK τ d 4) 129 0 n (dsF s.1 d, s.2) := by
  refine ⟨fun p hp => ?_, ?_, fun b hb => ?_⟩
  · have := h.1 p hp
    rw [Nat.zero_add] at this ⊢
    rw [dsK_in hp]
    show dsF _ d p = dsF s.1 d p
    unfold dsF; rw [this]
  · rw [dsK_out (by omega)]; exact h.2.1
  · rw [dsK_out (by omega)]; exact h.2.2 b hb
theorem mrow.cg {τ : Sto} {a q n : Nat} {s s' : Scn} (h : mrow τ a q n s) (e1 : ∀ p, p < 4 → s.1 p = s'.1 p) (e2 : s.2 = s'.2) : mrow τ a q n s' := ⟨fun p hp => (h.1 p hp).trans (e1 p hp), by rw [← e2]; exact h.2.1, fun b hb => by rw [← e2]; exact h.2.2 b hb⟩
set_option maxRecDepth 100000 in
theorem m_X8_waters {S : Scr} {A : Abs} (hl : ¬ totA (aC A) = 0) (σ : Sto) (h : RM A σ) (hA : AI (setC (remA A) (watSc (aC A)))) : Mt S yX8_waters cX8_waters 1 (some .int) 3 [.ref 117] σ (PM (setC (remA A) (watSc (aC A))) σ (totA (watSc (aC A)))) := by
  refine mt_of (ls := [.ref 117]) (by decide) rfl (Nat.le_of_ble_eq_true rfl) (by simp [Value.category]) ?_
  have hN := h.mv (mls_now σ)
  refine ev_aload_n_0 (pc := 0) dX8_waters_0 ?_
  refine ev_callV0 (pc := 1) dX8_waters_1 ml_X8_157 (m_X8_asItIs σ) (by decide) ⟨_, rfl, rfl⟩ rfl (by decide) rfl (Nat.le_of_ble_eq_true rfl) ?_
  refine ev_aload_n_0 (pc := 4) dX8_waters_4 ?_
  refine ev_callV1 (pc := 5) dX8_waters_5 ml_X8_147 (m_X8_inPot _ h.nwR) (by decide) ⟨_, rfl, rfl⟩ rfl (by decide) rfl (Nat.le_of_ble_eq_true rfl) ?_
  refine ev_if_ne (pc := 8) (tgt := 14) dX8_waters_8 (by decide) (fun h8 => ?_) (fun h8 => by exact absurd h8 hl)
  refine ev_aload_n_0 (pc := 14) dX8_waters_14 ?_
  refine ev_callV (pc := 15) dX8_waters_15 ml_X8_167 (m_X8_remembers _ hN) (by decide) ⟨_, rfl, rfl⟩ rfl (by decide) rfl (Nat.le_of_ble_eq_true rfl) ?_
  rintro r τ ⟨rfl, hR, hF⟩
  have hr : mrow τ 129 0 (aN A) (aC A) := h.now.mv (hF.2.1 129 (by decide) (by decide))
  have hd : mrow (dsK τ 4 4) 129 0 (aN A) (watSc (aC A)) := hr.ds.cg (fun p hp => ds_wat h.1.2.2.1 hp) rfl
  have hw : RW (setC (remA A) (watSc (aC A))) (cpk (dsK τ 4 4) 129 0 120 0 11) := RW.cur hR rfl (fun c h1 h2 h3 => by rw [cpk_ne h3, dsK_ne (by omega)]) (hd.cp h.n6)
  have hq : nwR (setC (remA A) (watSc (aC A))) (cpk (dsK τ 4 4) 129 0 120 0 11) (watSc (aC A)) := ⟨h.n6, hw.1, hd.mv (cpk_ne (by decide)), hA.2.2.1⟩
  refine ev_aload_n_0 (pc := 18) dX8_waters_18 ?_
  refine ev_iconst (pc := 19) (v := 4) dX8_waters_19 (by decide) ?_
  refine ev_callV0 (pc := 20) dX8_waters_20 ml_X8_170 (m_X8_does 4 (by decide) τ) (by decide) ⟨_, rfl, rfl⟩ rfl (by decide) rfl (Nat.le_of_ble_eq_true rfl) ?_
  refine ev_aload_n_0 (pc := 23) dX8_waters_23 ?_
  refine ev_getR (pc := 24) (r := 120) dX8_waters_24 fl_X8_16 (by decide) (by decide) (by decide) (by decide) ?_
  refine ev_iconst (pc := 27) (v := 0) dX8_waters_27 (by decide) ?_
  refine ev_aload_n_0 (pc := 28) dX8_waters_28 ?_
  refine ev_getR (pc := 29) (r := 129) dX8_waters_29 fl_X8_44 (by decide) (by decide) (by decide) (by decide) ?_
  refine ev_iconst (pc := 32) (v := 0) dX8_waters_32 (by decide) ?_
  refine ev_callS0 (pc := 33) dX8_waters_33 ml_X8_119 (m_X8_copy isA_120 isA_129 (by decide) 0 0 (by decide) (by decide) (by decide) (by decide) _) rfl (by decide) rfl (Nat.le_of_ble_eq_true rfl) ?_
  refine ev_aload_n_0 (pc := 36) dX8_waters_36 ?_
  refine ev_callV1 (pc := 37) dX8_waters_37 ml_X8_147 (m_X8_inPot _ hq) (by decide) ⟨_, rfl, rfl⟩ rfl (by decide) rfl (Nat.le_of_ble_eq_true rfl) ?_
  exact ev_ireturn (pc := 40) dX8_waters_40 rfl rfl (⟨rfl, ⟨hA, hw⟩, ((mls_now σ).fr.tr hF.fr).tr (FrM.of (fun c hc => by rw [cpk_ne (by omega), dsK_ne (by omega)]) rfl)⟩)
set_option maxRecDepth 100000 in
theorem m_X8_waters1 {S : Scr} {A : Abs} (hl : totA (aC A) = 0) (σ : Sto) (h : RM A σ) : Mt S yX8_waters cX8_waters 1 (some .int) 3 [.ref 117] σ (PM A σ (-2)) := by
  refine mt_of (ls := [.ref 117]) (by decide) rfl (Nat.le_of_ble_eq_true rfl) (by simp [Value.category]) ?_
  refine ev_aload_n_0 (pc := 0) dX8_waters_0 ?_
  refine ev_callV0 (pc := 1) dX8_waters_1 ml_X8_157 (m_X8_asItIs σ) (by decide) ⟨_, rfl, rfl⟩ rfl (by decide) rfl (Nat.le_of_ble_eq_true rfl) ?_
  refine ev_aload_n_0 (pc := 4) dX8_waters_4 ?_
  refine ev_callV1 (pc := 5) dX8_waters_5 ml_X8_147 (m_X8_inPot _ h.nwR) (by decide) ⟨_, rfl, rfl⟩ rfl (by decide) rfl (Nat.le_of_ble_eq_true rfl) ?_
  refine ev_if_ne (pc := 8) (tgt := 14) dX8_waters_8 (by decide) (fun h8 => by exact absurd hl h8) (fun h8 => ?_)
  refine ev_bipush (pc := 11) (v := (-2)) dX8_waters_11 (by decide) ?_
  exact ev_ireturn (pc := 13) dX8_waters_13 rfl rfl (PM.now h rfl)
