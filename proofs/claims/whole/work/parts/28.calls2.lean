/-! ===== the class's calls, 2 ===== -/
set_option maxRecDepth 100000 in
theorem m_X7_type {S : Scr} {A : Abs} (c : Int32) (hc : ¬ c < 0 ∧ c ≤ 255) (hl : (aT A).1 < 120) (σ : Sto) (h : RC A σ) : Mt S yX7_type cX7_type 2 (some .int) 1 [.ref 0, .int c] σ (PC (setT A ((aT A).1 + 1, fun i => if i = (aT A).1 then c else (aT A).2 i)) σ (nI ((aT A).1 + 1))) := by
  refine mt_of (ls := [.ref 0, .int c]) (by decide) rfl (Nat.le_of_ble_eq_true rfl) (by simp [Value.category]) ?_
  have ht := h.2.2.2.2.2.2.1.1
  refine ev_iload_n_1 (pc := 0) dX7_type_0 ?_
  refine ev_if_lt (pc := 1) (tgt := 11) dX7_type_1 (by decide) (fun h1 => by exact absurd h1 hc.1) (fun h1 => ?_)
  refine ev_iload_n_1 (pc := 4) dX7_type_4 ?_
  refine ev_sipush (pc := 5) (v := 255) dX7_type_5 (by decide) ?_
  refine ev_icmp_le (pc := 8) (tgt := 13) dX7_type_8 (by decide) (fun h8 => ?_) (fun h8 => by exact absurd hc.2 h8)
  refine ev_aload_n_0 (pc := 13) dX7_type_13 ?_
  refine ev_getR (pc := 14) (r := 1) dX7_type_14 fl_X7_10 (by decide) (by decide) (by decide) (by decide) ?_
  refine ev_getI (pc := 17) dX7_type_17 fl_X7_59 (by decide) (by decide) (by decide) ?_
  refine ev_bipush (pc := 20) (v := 120) dX7_type_20 (by decide) ?_
  refine ev_icmp_lt (pc := 22) (tgt := 28) dX7_type_22 (by decide) (fun h22 => ?_) (fun h22 => by exact absurd (by rw [ht]; exact nI_lt (a := (aT A).1) (b := 120) hl (by decide)) h22)
  refine ev_aload_n_0 (pc := 28) dX7_type_28 ?_
  refine ev_getR (pc := 29) (r := 1) dX7_type_29 fl_X7_10 (by decide) (by decide) (by decide) (by decide) ?_
  refine ev_iload_n_1 (pc := 32) dX7_type_32 ?_
  refine ev_callV1 (pc := 33) dX7_type_33 ml_X7_63 (m_X6_append _ hl c σ ht) (by decide) ⟨_, rfl, rfl⟩ rfl (by decide) rfl (Nat.le_of_ble_eq_true rfl) ?_
  refine ev_ireturn (pc := 36) dX7_type_36 rfl rfl (⟨rfl, h.text rfl (fun k a b _ => by rw [wr_ne a, wr_ne b]) ⟨wr_at, fun i hi => ?_⟩ hl, (frC_wr (by decide)).tr (frC_wr (by decide))⟩)
  show _ = if i = (aT A).1 then c else (aT A).2 i
  rw [wr_ne (by decide)]
  by_cases e : i = (aT A).1
  · rw [if_pos e, e, wr_at]
  · rw [if_neg e, wr_nj e]
    have hi' : i < (aT A).1 + 1 := hi
    exact h.2.2.2.2.2.2.1.2 i (by omega)
set_option maxRecDepth 100000 in
theorem m_X7_type1 {S : Scr} {A : Abs} (c : Int32) (hc : ¬ c < 0 ∧ c ≤ 255) (hl : (aT A).1 = 120) (σ : Sto) (h : RC A σ) : Mt S yX7_type cX7_type 2 (some .int) 1 [.ref 0, .int c] σ (Is (some (.int (-3))) σ) := by
  refine mt_of (ls := [.ref 0, .int c]) (by decide) rfl (Nat.le_of_ble_eq_true rfl) (by simp [Value.category]) ?_
  have ht := h.2.2.2.2.2.2.1.1
  refine ev_iload_n_1 (pc := 0) dX7_type_0 ?_
  refine ev_if_lt (pc := 1) (tgt := 11) dX7_type_1 (by decide) (fun h1 => by exact absurd h1 hc.1) (fun h1 => ?_)
  refine ev_iload_n_1 (pc := 4) dX7_type_4 ?_
  refine ev_sipush (pc := 5) (v := 255) dX7_type_5 (by decide) ?_
  refine ev_icmp_le (pc := 8) (tgt := 13) dX7_type_8 (by decide) (fun h8 => ?_) (fun h8 => by exact absurd hc.2 h8)
  refine ev_aload_n_0 (pc := 13) dX7_type_13 ?_
  refine ev_getR (pc := 14) (r := 1) dX7_type_14 fl_X7_10 (by decide) (by decide) (by decide) (by decide) ?_
  refine ev_getI (pc := 17) dX7_type_17 fl_X7_59 (by decide) (by decide) (by decide) ?_
  refine ev_bipush (pc := 20) (v := 120) dX7_type_20 (by decide) ?_
  refine ev_icmp_lt (pc := 22) (tgt := 28) dX7_type_22 (by decide) (fun h22 => by exact absurd h22 (by rw [ht, hl]; decide)) (fun h22 => ?_)
  refine ev_bipush (pc := 25) (v := (-3)) dX7_type_25 (by decide) ?_
  exact ev_ireturn (pc := 27) dX7_type_27 rfl rfl (⟨rfl, rfl⟩)
set_option maxRecDepth 100000 in
theorem m_X7_type0 {S : Scr} (c : Int32) (hc : ¬ (¬ c < 0 ∧ c ≤ 255)) (σ : Sto) : Mt S yX7_type cX7_type 2 (some .int) 1 [.ref 0, .int c] σ (Is (some (.int (-1))) σ) := by
  refine mt_of (ls := [.ref 0, .int c]) (by decide) rfl (Nat.le_of_ble_eq_true rfl) (by simp [Value.category]) ?_
  refine ev_iload_n_1 (pc := 0) dX7_type_0 ?_
  refine ev_if_lt (pc := 1) (tgt := 11) dX7_type_1 (by decide) (fun h1 => ?_) (fun h1 => ?_)
  · skip
    refine ev_iconst (pc := 11) (v := (-1)) dX7_type_11 (by decide) ?_
    exact ev_ireturn (pc := 12) dX7_type_12 rfl rfl (⟨rfl, rfl⟩)
  · skip
    refine ev_iload_n_1 (pc := 4) dX7_type_4 ?_
    refine ev_sipush (pc := 5) (v := 255) dX7_type_5 (by decide) ?_
    refine ev_icmp_le (pc := 8) (tgt := 13) dX7_type_8 (by decide) (fun h8 => ?_) (fun h8 => ?_)
    · skip
      exact absurd ⟨h1, h8⟩ hc
    · skip
      refine ev_iconst (pc := 11) (v := (-1)) dX7_type_11 (by decide) ?_
      exact ev_ireturn (pc := 12) dX7_type_12 rfl rfl (⟨rfl, rfl⟩)
set_option maxRecDepth 100000 in
theorem m_X7_clear {S : Scr} {A : Abs} (σ : Sto) (h : RC A σ) : Mt S yX7_clear cX7_clear 1 (some .int) 1 [.ref 0] σ (PC (setT A (0, (aT A).2)) σ (nI (aT A).1)) := by
  refine mt_of (ls := [.ref 0]) (by decide) rfl (Nat.le_of_ble_eq_true rfl) (by simp [Value.category]) ?_
  refine ev_aload_n_0 (pc := 0) dX7_clear_0 ?_
  refine ev_getR (pc := 1) (r := 1) dX7_clear_1 fl_X7_10 (by decide) (by decide) (by decide) (by decide) ?_
  refine ev_callV1 (pc := 4) dX7_clear_4 ml_X7_67 (m_X6_empty σ) (by decide) ⟨_, rfl, rfl⟩ rfl (by decide) rfl (Nat.le_of_ble_eq_true rfl) ?_
  exact ev_ireturn (pc := 7) dX7_clear_7 rfl rfl (⟨by rw [h.2.2.2.2.2.2.1.1], h.text rfl (fun k a b _ => wr_ne a) ⟨wr_at, fun i hi => absurd hi (Nat.not_lt_zero i)⟩ (Nat.zero_le _), frC_wr (by decide)⟩)
set_option maxRecDepth 100000 in
theorem m_X7_adds {S : Scr} {A : Abs} (p : Nat) (hp : p < 4) (hl : ¬ 5 ≤ (aC A).1 p) (σ : Sto) (h : RC A σ) : Mt S yX7_adds cX7_adds 2 (some .int) 3 [.ref 0, .int (nI p)] σ (PC (setC (remA A) (addS (aC A) p)) σ ((aC A).1 p + 1)) := by
  refine mt_of (ls := [.ref 0, .int (nI p)]) (by decide) rfl (Nat.le_of_ble_eq_true rfl) (by simp [Value.category]) ?_
  obtain ⟨nx, hx, hn, -⟩ := h.past0
  have hR := h.rem hx hn
  have hQ := hR.add hp hl
  refine ev_iload_n_1 (pc := 0) dX7_adds_0 ?_
  refine ev_callS1 (pc := 1) dX7_adds_1 ml_X7_77 (m_X7_isPart _ σ) rfl (by decide) rfl (Nat.le_of_ble_eq_true rfl) ?_
  rw [part_t hp]
  refine ev_if_ne (pc := 4) (tgt := 9) dX7_adds_4 (by decide) (fun h4 => ?_) (fun h4 => by exact absurd h4 (by decide))
  refine ev_aload_n_0 (pc := 9) dX7_adds_9 ?_
  refine ev_getR (pc := 10) (r := 39) dX7_adds_10 fl_X7_26 (by decide) (by decide) (by decide) (by decide) ?_
  refine ev_getR (pc := 13) (r := 40) dX7_adds_13 fl_X7_81 (by decide) (by decide) (by decide) (by decide) ?_
  refine ev_iload_n_1 (pc := 16) dX7_adds_16 ?_
  refine ev_iaload' (pc := 17) (j := p) dX7_adds_17 (by decide) (by decide) (show vp_in _ 4 from (vp_in_nI (by omega) (by decide))) (nI_clamp (by omega)) ?_
  refine ev_iconst (pc := 18) (v := 5) dX7_adds_18 (by decide) ?_
  refine ev_icmp_lt (pc := 19) (tgt := 25) dX7_adds_19 (by decide) (fun h19 => ?_) (fun h19 => by exact absurd (by rw [h.potE hp]; exact Int32.not_le.mp hl) h19)
  refine ev_aload_n_0 (pc := 25) dX7_adds_25 ?_
  refine ev_getR (pc := 26) (r := 9) dX7_adds_26 fl_X7_33 (by decide) (by decide) (by decide) (by decide) ?_
  refine ev_aload_n_0 (pc := 29) dX7_adds_29 ?_
  refine ev_getR (pc := 30) (r := 39) dX7_adds_30 fl_X7_26 (by decide) (by decide) (by decide) (by decide) ?_
  refine ev_callV0 (pc := 33) dX7_adds_33 ml_X7_135 (m_X1_remember nx hx σ hn) (by decide) ⟨_, rfl, rfl⟩ rfl (by decide) rfl (Nat.le_of_ble_eq_true rfl) ?_
  refine ev_aload_n_0 (pc := 36) dX7_adds_36 ?_
  refine ev_getR (pc := 37) (r := 39) dX7_adds_37 fl_X7_26 (by decide) (by decide) (by decide) (by decide) ?_
  refine ev_getR (pc := 40) (r := 40) dX7_adds_40 fl_X7_81 (by decide) (by decide) (by decide) (by decide) ?_
  refine ev_iload_n_1 (pc := 43) dX7_adds_43 ?_
  refine ev_callS0 (pc := 44) dX7_adds_44 ml_X7_139 (m_X7_change isA_40 _ _) rfl (by decide) rfl (Nat.le_of_ble_eq_true rfl) ?_
  refine ev_aload_n_0 (pc := 47) dX7_adds_47 ?_
  refine ev_getR (pc := 48) (r := 39) dX7_adds_48 fl_X7_26 (by decide) (by decide) (by decide) (by decide) ?_
  refine ev_getR (pc := 51) (r := 40) dX7_adds_51 fl_X7_81 (by decide) (by decide) (by decide) (by decide) ?_
  refine ev_iload_n_1 (pc := 54) dX7_adds_54 ?_
  refine ev_iaload' (pc := 55) (j := p) dX7_adds_55 (by decide) (by decide) (show vp_in _ 4 from (vp_in_nI (by omega) (by decide))) (nI_clamp (by omega)) ?_
  exact ev_ireturn (pc := 56) dX7_adds_56 rfl rfl (⟨by rw [hQ.2], hQ.1, (frC_rem hx).tr (frC_chg (by decide))⟩)
set_option maxRecDepth 100000 in
theorem m_X7_adds1 {S : Scr} {A : Abs} (p : Nat) (hp : p < 4) (hl : 5 ≤ (aC A).1 p) (σ : Sto) (h : RC A σ) : Mt S yX7_adds cX7_adds 2 (some .int) 3 [.ref 0, .int (nI p)] σ (Is (some (.int (-2))) σ) := by
  refine mt_of (ls := [.ref 0, .int (nI p)]) (by decide) rfl (Nat.le_of_ble_eq_true rfl) (by simp [Value.category]) ?_
  refine ev_iload_n_1 (pc := 0) dX7_adds_0 ?_
  refine ev_callS1 (pc := 1) dX7_adds_1 ml_X7_77 (m_X7_isPart _ σ) rfl (by decide) rfl (Nat.le_of_ble_eq_true rfl) ?_
  rw [part_t hp]
  refine ev_if_ne (pc := 4) (tgt := 9) dX7_adds_4 (by decide) (fun h4 => ?_) (fun h4 => by exact absurd h4 (by decide))
  refine ev_aload_n_0 (pc := 9) dX7_adds_9 ?_
  refine ev_getR (pc := 10) (r := 39) dX7_adds_10 fl_X7_26 (by decide) (by decide) (by decide) (by decide) ?_
  refine ev_getR (pc := 13) (r := 40) dX7_adds_13 fl_X7_81 (by decide) (by decide) (by decide) (by decide) ?_
  refine ev_iload_n_1 (pc := 16) dX7_adds_16 ?_
  refine ev_iaload' (pc := 17) (j := p) dX7_adds_17 (by decide) (by decide) (show vp_in _ 4 from (vp_in_nI (by omega) (by decide))) (nI_clamp (by omega)) ?_
  refine ev_iconst (pc := 18) (v := 5) dX7_adds_18 (by decide) ?_
  refine ev_icmp_lt (pc := 19) (tgt := 25) dX7_adds_19 (by decide) (fun h19 => by exact absurd (by rw [h.potE hp] at h19; exact h19) (Int32.not_lt.mpr hl)) (fun h19 => ?_)
  refine ev_bipush (pc := 22) (v := (-2)) dX7_adds_22 (by decide) ?_
  exact ev_ireturn (pc := 24) dX7_adds_24 rfl rfl (⟨rfl, rfl⟩)
set_option maxRecDepth 100000 in
theorem m_X7_adds0 {S : Scr} (p : Int32) (hp : ¬ okP p) (σ : Sto) : Mt S yX7_adds cX7_adds 2 (some .int) 3 [.ref 0, .int p] σ (Is (some (.int (-1))) σ) := by
  refine mt_of (ls := [.ref 0, .int p]) (by decide) rfl (Nat.le_of_ble_eq_true rfl) (by simp [Value.category]) ?_
  refine ev_iload_n_1 (pc := 0) dX7_adds_0 ?_
  refine ev_callS1 (pc := 1) dX7_adds_1 ml_X7_77 (m_X7_isPart _ σ) rfl (by decide) rfl (Nat.le_of_ble_eq_true rfl) ?_
  rw [bI_f hp]
  refine ev_if_ne (pc := 4) (tgt := 9) dX7_adds_4 (by decide) (fun h4 => by exact absurd rfl h4) (fun h4 => ?_)
  refine ev_iconst (pc := 7) (v := (-1)) dX7_adds_7 (by decide) ?_
  exact ev_ireturn (pc := 8) dX7_adds_8 rfl rfl (⟨rfl, rfl⟩)
set_option maxRecDepth 100000 in
theorem m_X7_waters {S : Scr} {A : Abs} (hl : ¬ totA (aC A) = 0) (σ : Sto) (h : RC A σ) : Mt S yX7_waters cX7_waters 1 (some .int) 3 [.ref 0] σ (PC (setC (remA A) (watSc (aC A))) σ (totA (watSc (aC A)))) := by
  refine mt_of (ls := [.ref 0]) (by decide) rfl (Nat.le_of_ble_eq_true rfl) (by simp [Value.category]) ?_
  obtain ⟨nx, hx, hn, -⟩ := h.past0
  have hQ := (h.rem hx hn).wat
  refine ev_aload_n_0 (pc := 0) dX7_waters_0 ?_
  refine ev_getR (pc := 1) (r := 39) dX7_waters_1 fl_X7_26 (by decide) (by decide) (by decide) (by decide) ?_
  refine ev_getR (pc := 4) (r := 40) dX7_waters_4 fl_X7_81 (by decide) (by decide) (by decide) (by decide) ?_
  refine ev_callS1 (pc := 7) dX7_waters_7 ml_X7_125 (m_X7_total isA_40 σ) rfl (by decide) rfl (Nat.le_of_ble_eq_true rfl) ?_
  rw [h.tot]
  refine ev_if_ne (pc := 10) (tgt := 16) dX7_waters_10 (by decide) (fun h10 => ?_) (fun h10 => by exact absurd h10 hl)
  refine ev_aload_n_0 (pc := 16) dX7_waters_16 ?_
  refine ev_getR (pc := 17) (r := 9) dX7_waters_17 fl_X7_33 (by decide) (by decide) (by decide) (by decide) ?_
  refine ev_aload_n_0 (pc := 20) dX7_waters_20 ?_
  refine ev_getR (pc := 21) (r := 39) dX7_waters_21 fl_X7_26 (by decide) (by decide) (by decide) (by decide) ?_
  refine ev_callV0 (pc := 24) dX7_waters_24 ml_X7_135 (m_X1_remember nx hx σ hn) (by decide) ⟨_, rfl, rfl⟩ rfl (by decide) rfl (Nat.le_of_ble_eq_true rfl) ?_
  refine ev_aload_n_0 (pc := 27) dX7_waters_27 ?_
  refine ev_getR (pc := 28) (r := 39) dX7_waters_28 fl_X7_26 (by decide) (by decide) (by decide) (by decide) ?_
  refine ev_getR (pc := 31) (r := 40) dX7_waters_31 fl_X7_81 (by decide) (by decide) (by decide) (by decide) ?_
  refine ev_iconst (pc := 34) (v := 4) dX7_waters_34 (by decide) ?_
  refine ev_callS0 (pc := 35) dX7_waters_35 ml_X7_139 (m_X7_change isA_40 _ _) rfl (by decide) rfl (Nat.le_of_ble_eq_true rfl) ?_
  refine ev_aload_n_0 (pc := 38) dX7_waters_38 ?_
  refine ev_getR (pc := 39) (r := 39) dX7_waters_39 fl_X7_26 (by decide) (by decide) (by decide) (by decide) ?_
  refine ev_getR (pc := 42) (r := 40) dX7_waters_42 fl_X7_81 (by decide) (by decide) (by decide) (by decide) ?_
  refine ev_callS1 (pc := 45) dX7_waters_45 ml_X7_125 (m_X7_total isA_40 _) rfl (by decide) rfl (Nat.le_of_ble_eq_true rfl) ?_
  exact ev_ireturn (pc := 48) dX7_waters_48 rfl rfl (⟨by rw [hQ.tot], hQ, (frC_rem hx).tr (frC_chg (by decide))⟩)
set_option maxRecDepth 100000 in
theorem m_X7_waters1 {S : Scr} {A : Abs} (hl : totA (aC A) = 0) (σ : Sto) (h : RC A σ) : Mt S yX7_waters cX7_waters 1 (some .int) 3 [.ref 0] σ (Is (some (.int (-2))) σ) := by
  refine mt_of (ls := [.ref 0]) (by decide) rfl (Nat.le_of_ble_eq_true rfl) (by simp [Value.category]) ?_
  refine ev_aload_n_0 (pc := 0) dX7_waters_0 ?_
  refine ev_getR (pc := 1) (r := 39) dX7_waters_1 fl_X7_26 (by decide) (by decide) (by decide) (by decide) ?_
  refine ev_getR (pc := 4) (r := 40) dX7_waters_4 fl_X7_81 (by decide) (by decide) (by decide) (by decide) ?_
  refine ev_callS1 (pc := 7) dX7_waters_7 ml_X7_125 (m_X7_total isA_40 σ) rfl (by decide) rfl (Nat.le_of_ble_eq_true rfl) ?_
  rw [h.tot]
  refine ev_if_ne (pc := 10) (tgt := 16) dX7_waters_10 (by decide) (fun h10 => by exact absurd hl h10) (fun h10 => ?_)
  refine ev_bipush (pc := 13) (v := (-2)) dX7_waters_13 (by decide) ?_
  exact ev_ireturn (pc := 15) dX7_waters_15 rfl rfl (⟨rfl, rfl⟩)
set_option maxRecDepth 100000 in
theorem m_X7_sends {S : Scr} {A : Abs} (b : Nat) (hb : b < aN A) (σ : Sto) (h : RC A σ) : Mt S yX7_sends cX7_sends 2 (some .int) 3 [.ref 0, .int (nI b)] σ (PC (setC (remA A) (shwS (aC A) b (mienA A b))) σ (mienA A b)) := by
  refine mt_of (ls := [.ref 0, .int (nI b)]) (by decide) rfl (Nat.le_of_ble_eq_true rfl) (by simp [Value.category]) ?_
  have hb6 : b < 6 := Nat.lt_of_lt_of_le hb h.n6
  obtain ⟨nx, hx, hn, -⟩ := h.past0
  have hR := h.rem hx hn
  have hM : mienB (remW σ nx) 39 b = mienA A b := hR.mien hb
  have hQ := hR.shw (m := mienA A b) hb
  refine ev_aload_n_0 (pc := 0) dX7_sends_0 ?_
  refine ev_getR (pc := 1) (r := 5) dX7_sends_1 fl_X7_19 (by decide) (by decide) (by decide) (by decide) ?_
  refine ev_iload_n_1 (pc := 4) dX7_sends_4 ?_
  refine ev_callV1 (pc := 5) dX7_sends_5 ml_X7_85 (m_X0_has _ σ) (by decide) ⟨_, rfl, rfl⟩ rfl (by decide) rfl (Nat.le_of_ble_eq_true rfl) ?_
  rw [has_t h hb]
  refine ev_if_ne (pc := 8) (tgt := 13) dX7_sends_8 (by decide) (fun h8 => ?_) (fun h8 => by exact absurd h8 (by decide))
  refine ev_aload_n_0 (pc := 13) dX7_sends_13 ?_
  refine ev_getR (pc := 14) (r := 9) dX7_sends_14 fl_X7_33 (by decide) (by decide) (by decide) (by decide) ?_
  refine ev_aload_n_0 (pc := 17) dX7_sends_17 ?_
  refine ev_getR (pc := 18) (r := 39) dX7_sends_18 fl_X7_26 (by decide) (by decide) (by decide) (by decide) ?_
  refine ev_callV0 (pc := 21) dX7_sends_21 ml_X7_135 (m_X1_remember nx hx σ hn) (by decide) ⟨_, rfl, rfl⟩ rfl (by decide) rfl (Nat.le_of_ble_eq_true rfl) ?_
  refine ev_aload_n_0 (pc := 24) dX7_sends_24 ?_
  refine ev_getR (pc := 25) (r := 39) dX7_sends_25 fl_X7_26 (by decide) (by decide) (by decide) (by decide) ?_
  refine ev_getR (pc := 28) (r := 42) dX7_sends_28 fl_X7_110 (by decide) (by decide) (by decide) (by decide) ?_
  refine ev_iload_n_1 (pc := 31) dX7_sends_31 ?_
  refine ev_aload_n_0 (pc := 32) dX7_sends_32 ?_
  refine ev_getR (pc := 33) (r := 5) dX7_sends_33 fl_X7_19 (by decide) (by decide) (by decide) (by decide) ?_
  refine ev_iload_n_1 (pc := 36) dX7_sends_36 ?_
  refine ev_aload_n_0 (pc := 37) dX7_sends_37 ?_
  refine ev_getR (pc := 38) (r := 39) dX7_sends_38 fl_X7_26 (by decide) (by decide) (by decide) (by decide) ?_
  refine ev_callV1 (pc := 41) dX7_sends_41 ml_X7_103 (m_X0_mienOf isSc_39 b hb6 _) (by decide) ⟨_, rfl, rfl⟩ rfl (by decide) rfl (Nat.le_of_ble_eq_true rfl) ?_
  rw [hM]
  refine ev_iastore' (pc := 44) (j := b) dX7_sends_44 (by decide) (by decide) (show vp_in _ 6 from (vp_in_nI (by omega) (by decide))) (nI_clamp (by omega)) ?_
  refine ev_aload_n_0 (pc := 45) dX7_sends_45 ?_
  refine ev_getR (pc := 46) (r := 39) dX7_sends_46 fl_X7_26 (by decide) (by decide) (by decide) (by decide) ?_
  refine ev_getR (pc := 49) (r := 42) dX7_sends_49 fl_X7_110 (by decide) (by decide) (by decide) (by decide) ?_
  refine ev_iload_n_1 (pc := 52) dX7_sends_52 ?_
  refine ev_iaload' (pc := 53) (j := b) dX7_sends_53 (by decide) (by decide) (show vp_in _ 6 from (vp_in_nI (by omega) (by decide))) (nI_clamp (by omega)) ?_
  exact ev_ireturn (pc := 54) dX7_sends_54 rfl rfl (⟨by rw [wr_at], hQ, (frC_rem hx).tr (frC_wr (by decide))⟩)
set_option maxRecDepth 100000 in
theorem m_X7_sends0 {S : Scr} {A : Abs} (b : Int32) (hb : ¬ okB A b) (σ : Sto) (h : RC A σ) : Mt S yX7_sends cX7_sends 2 (some .int) 3 [.ref 0, .int b] σ (Is (some (.int (-1))) σ) := by
  refine mt_of (ls := [.ref 0, .int b]) (by decide) rfl (Nat.le_of_ble_eq_true rfl) (by simp [Value.category]) ?_
  refine ev_aload_n_0 (pc := 0) dX7_sends_0 ?_
  refine ev_getR (pc := 1) (r := 5) dX7_sends_1 fl_X7_19 (by decide) (by decide) (by decide) (by decide) ?_
  refine ev_iload_n_1 (pc := 4) dX7_sends_4 ?_
  refine ev_callV1 (pc := 5) dX7_sends_5 ml_X7_85 (m_X0_has _ σ) (by decide) ⟨_, rfl, rfl⟩ rfl (by decide) rfl (Nat.le_of_ble_eq_true rfl) ?_
  rw [has_f h hb]
  refine ev_if_ne (pc := 8) (tgt := 13) dX7_sends_8 (by decide) (fun h8 => by exact absurd rfl h8) (fun h8 => ?_)
  refine ev_iconst (pc := 11) (v := (-1)) dX7_sends_11 (by decide) ?_
  exact ev_ireturn (pc := 12) dX7_sends_12 rfl rfl (⟨rfl, rfl⟩)
set_option maxRecDepth 100000 in
theorem m_X7_colds {S : Scr} {A : Abs} (b : Nat) (hb : b < aN A) (x : Int32) (hx1 : x = 0 ∨ x = 1) (hl : ¬ (aC A).2.1 b = x) (σ : Sto) (h : RC A σ) : Mt S yX7_colds cX7_colds 3 (some .int) 3 [.ref 0, .int (nI b), .int x] σ (PC (setC (remA A) (cldS (aC A) b x)) σ (bcD (cldD (cldS (aC A) b x).2.1))) := by
  refine mt_of (ls := [.ref 0, .int (nI b), .int x]) (by decide) rfl (Nat.le_of_ble_eq_true rfl) (by simp [Value.category]) ?_
  have hb6 : b < 6 := Nat.lt_of_lt_of_le hb h.n6
  obtain ⟨nx, hx, hn, -⟩ := h.past0
  have hR := h.rem hx hn
  have hQ := hR.cld (b := b) hx1
  refine ev_aload_n_0 (pc := 0) dX7_colds_0 ?_
  refine ev_getR (pc := 1) (r := 5) dX7_colds_1 fl_X7_19 (by decide) (by decide) (by decide) (by decide) ?_
  refine ev_iload_n_1 (pc := 4) dX7_colds_4 ?_
  refine ev_callV1 (pc := 5) dX7_colds_5 ml_X7_85 (m_X0_has _ σ) (by decide) ⟨_, rfl, rfl⟩ rfl (by decide) rfl (Nat.le_of_ble_eq_true rfl) ?_
  rw [has_t h hb]
  refine ev_if_eq (pc := 8) (tgt := 20) dX7_colds_8 (by decide) (fun h8 => by exact absurd h8 (by decide)) (fun h8 => ?_)
  refine ev_iload_n_2 (pc := 11) dX7_colds_11 ?_
  refine ev_if_lt (pc := 12) (tgt := 20) dX7_colds_12 (by decide) (fun h12 => by exact absurd h12 (by rcases hx1 with z | z <;> rw [z] <;> decide)) (fun h12 => ?_)
  refine ev_iload_n_2 (pc := 15) dX7_colds_15 ?_
  refine ev_iconst (pc := 16) (v := 1) dX7_colds_16 (by decide) ?_
  refine ev_icmp_le (pc := 17) (tgt := 22) dX7_colds_17 (by decide) (fun h17 => ?_) (fun h17 => by exact absurd (by rcases hx1 with z | z <;> rw [z] <;> decide) h17)
  refine ev_aload_n_0 (pc := 22) dX7_colds_22 ?_
  refine ev_getR (pc := 23) (r := 39) dX7_colds_23 fl_X7_26 (by decide) (by decide) (by decide) (by decide) ?_
  refine ev_getR (pc := 26) (r := 41) dX7_colds_26 fl_X7_100 (by decide) (by decide) (by decide) (by decide) ?_
  refine ev_iload_n_1 (pc := 29) dX7_colds_29 ?_
  refine ev_iaload' (pc := 30) (j := b) dX7_colds_30 (by decide) (by decide) (show vp_in _ 6 from (vp_in_nI (by omega) (by decide))) (nI_clamp (by omega)) ?_
  refine ev_iload_n_2 (pc := 31) dX7_colds_31 ?_
  rw [h.coldE hb6]
  refine ev_icmp_ne (pc := 32) (tgt := 38) dX7_colds_32 (by decide) (fun h32 => ?_) (fun h32 => by exact absurd h32 hl)
  refine ev_aload_n_0 (pc := 38) dX7_colds_38 ?_
  refine ev_getR (pc := 39) (r := 9) dX7_colds_39 fl_X7_33 (by decide) (by decide) (by decide) (by decide) ?_
  refine ev_aload_n_0 (pc := 42) dX7_colds_42 ?_
  refine ev_getR (pc := 43) (r := 39) dX7_colds_43 fl_X7_26 (by decide) (by decide) (by decide) (by decide) ?_
  refine ev_callV0 (pc := 46) dX7_colds_46 ml_X7_135 (m_X1_remember nx hx σ hn) (by decide) ⟨_, rfl, rfl⟩ rfl (by decide) rfl (Nat.le_of_ble_eq_true rfl) ?_
  refine ev_aload_n_0 (pc := 49) dX7_colds_49 ?_
  refine ev_getR (pc := 50) (r := 39) dX7_colds_50 fl_X7_26 (by decide) (by decide) (by decide) (by decide) ?_
  refine ev_getR (pc := 53) (r := 41) dX7_colds_53 fl_X7_100 (by decide) (by decide) (by decide) (by decide) ?_
  refine ev_iload_n_1 (pc := 56) dX7_colds_56 ?_
  refine ev_iload_n_2 (pc := 57) dX7_colds_57 ?_
  refine ev_iastore' (pc := 58) (j := b) dX7_colds_58 (by decide) (by decide) (show vp_in _ 6 from (vp_in_nI (by omega) (by decide))) (nI_clamp (by omega)) ?_
  refine ev_aload_n_0 (pc := 59) dX7_colds_59 ?_
  refine ev_getR (pc := 60) (r := 39) dX7_colds_60 fl_X7_26 (by decide) (by decide) (by decide) (by decide) ?_
  refine ev_callV1 (pc := 63) dX7_colds_63 ml_X7_122 (m_X3_coldSet _) (by decide) ⟨_, rfl, rfl⟩ rfl (by decide) rfl (Nat.le_of_ble_eq_true rfl) ?_
  refine ev_callS1 (pc := 66) dX7_colds_66 ml_X7_143 (m_J_bitCount _ _) rfl (by decide) rfl (Nat.le_of_ble_eq_true rfl) ?_
  exact ev_ireturn (pc := 69) dX7_colds_69 rfl rfl (⟨by rw [hQ.cold], hQ, (frC_rem hx).tr (frC_wr (by decide))⟩)
set_option maxRecDepth 100000 in
theorem m_X7_colds1 {S : Scr} {A : Abs} (b : Nat) (hb : b < aN A) (x : Int32) (hx1 : x = 0 ∨ x = 1) (hl : (aC A).2.1 b = x) (σ : Sto) (h : RC A σ) : Mt S yX7_colds cX7_colds 3 (some .int) 3 [.ref 0, .int (nI b), .int x] σ (Is (some (.int (-2))) σ) := by
  refine mt_of (ls := [.ref 0, .int (nI b), .int x]) (by decide) rfl (Nat.le_of_ble_eq_true rfl) (by simp [Value.category]) ?_
  have hb6 : b < 6 := Nat.lt_of_lt_of_le hb h.n6
  refine ev_aload_n_0 (pc := 0) dX7_colds_0 ?_
  refine ev_getR (pc := 1) (r := 5) dX7_colds_1 fl_X7_19 (by decide) (by decide) (by decide) (by decide) ?_
  refine ev_iload_n_1 (pc := 4) dX7_colds_4 ?_
  refine ev_callV1 (pc := 5) dX7_colds_5 ml_X7_85 (m_X0_has _ σ) (by decide) ⟨_, rfl, rfl⟩ rfl (by decide) rfl (Nat.le_of_ble_eq_true rfl) ?_
  rw [has_t h hb]
  refine ev_if_eq (pc := 8) (tgt := 20) dX7_colds_8 (by decide) (fun h8 => by exact absurd h8 (by decide)) (fun h8 => ?_)
  refine ev_iload_n_2 (pc := 11) dX7_colds_11 ?_
  refine ev_if_lt (pc := 12) (tgt := 20) dX7_colds_12 (by decide) (fun h12 => by exact absurd h12 (by rcases hx1 with z | z <;> rw [z] <;> decide)) (fun h12 => ?_)
  refine ev_iload_n_2 (pc := 15) dX7_colds_15 ?_
  refine ev_iconst (pc := 16) (v := 1) dX7_colds_16 (by decide) ?_
  refine ev_icmp_le (pc := 17) (tgt := 22) dX7_colds_17 (by decide) (fun h17 => ?_) (fun h17 => by exact absurd (by rcases hx1 with z | z <;> rw [z] <;> decide) h17)
  refine ev_aload_n_0 (pc := 22) dX7_colds_22 ?_
  refine ev_getR (pc := 23) (r := 39) dX7_colds_23 fl_X7_26 (by decide) (by decide) (by decide) (by decide) ?_
  refine ev_getR (pc := 26) (r := 41) dX7_colds_26 fl_X7_100 (by decide) (by decide) (by decide) (by decide) ?_
  refine ev_iload_n_1 (pc := 29) dX7_colds_29 ?_
  refine ev_iaload' (pc := 30) (j := b) dX7_colds_30 (by decide) (by decide) (show vp_in _ 6 from (vp_in_nI (by omega) (by decide))) (nI_clamp (by omega)) ?_
  refine ev_iload_n_2 (pc := 31) dX7_colds_31 ?_
  rw [h.coldE hb6]
  refine ev_icmp_ne (pc := 32) (tgt := 38) dX7_colds_32 (by decide) (fun h32 => by exact absurd hl h32) (fun h32 => ?_)
  refine ev_bipush (pc := 35) (v := (-2)) dX7_colds_35 (by decide) ?_
  exact ev_ireturn (pc := 37) dX7_colds_37 rfl rfl (⟨rfl, rfl⟩)
set_option maxRecDepth 100000 in
theorem m_X7_colds0 {S : Scr} {A : Abs} (b x : Int32) (hb : ¬ (okB A b ∧ ¬ x < 0 ∧ x ≤ 1)) (σ : Sto) (h : RC A σ) : Mt S yX7_colds cX7_colds 3 (some .int) 3 [.ref 0, .int b, .int x] σ (Is (some (.int (-1))) σ) := by
  refine mt_of (ls := [.ref 0, .int b, .int x]) (by decide) rfl (Nat.le_of_ble_eq_true rfl) (by simp [Value.category]) ?_
  refine ev_aload_n_0 (pc := 0) dX7_colds_0 ?_
  refine ev_getR (pc := 1) (r := 5) dX7_colds_1 fl_X7_19 (by decide) (by decide) (by decide) (by decide) ?_
  refine ev_iload_n_1 (pc := 4) dX7_colds_4 ?_
  refine ev_callV1 (pc := 5) dX7_colds_5 ml_X7_85 (m_X0_has _ σ) (by decide) ⟨_, rfl, rfl⟩ rfl (by decide) rfl (Nat.le_of_ble_eq_true rfl) ?_
  refine ev_if_eq (pc := 8) (tgt := 20) dX7_colds_8 (by decide) (fun h8 => ?_) (fun h8 => ?_)
  · skip
    refine ev_iconst (pc := 20) (v := (-1)) dX7_colds_20 (by decide) ?_
    exact ev_ireturn (pc := 21) dX7_colds_21 rfl rfl (⟨rfl, rfl⟩)
  · skip
    refine ev_iload_n_2 (pc := 11) dX7_colds_11 ?_
    refine ev_if_lt (pc := 12) (tgt := 20) dX7_colds_12 (by decide) (fun h12 => ?_) (fun h12 => ?_)
    · skip
      refine ev_iconst (pc := 20) (v := (-1)) dX7_colds_20 (by decide) ?_
      exact ev_ireturn (pc := 21) dX7_colds_21 rfl rfl (⟨rfl, rfl⟩)
    · skip
      refine ev_iload_n_2 (pc := 15) dX7_colds_15 ?_
      refine ev_iconst (pc := 16) (v := 1) dX7_colds_16 (by decide) ?_
      refine ev_icmp_le (pc := 17) (tgt := 22) dX7_colds_17 (by decide) (fun h17 => ?_) (fun h17 => ?_)
      · skip
        exact absurd ⟨(by rw [h.m] at h8; exact Decidable.not_not.mp (fun z => h8 (bI0.mpr z))), h12, h17⟩ hb
      · skip
        refine ev_iconst (pc := 20) (v := (-1)) dX7_colds_20 (by decide) ?_
        exact ev_ireturn (pc := 21) dX7_colds_21 rfl rfl (⟨rfl, rfl⟩)
set_option maxRecDepth 100000 in
theorem m_X7_undo {S : Scr} {A : Abs} (s : Scn) (l : List Scn) (hl : aP A = s :: l) (σ : Sto) (h : RC A σ) : Mt S yX7_undo cX7_undo 1 (some .int) 3 [.ref 0] σ (PC (undA A s l) σ (nI l.length)) := by
  refine mt_of (ls := [.ref 0]) (by decide) rfl (Nat.le_of_ble_eq_true rfl) (by simp [Value.category]) ?_
  obtain ⟨nx, hx, hn, hk⟩ := h.past0
  have hQ := h.und hl hx hn
  have h10 : l.length + 1 ≤ 10 := by have := h.1.2.2.2.2.2.2.1; rw [hl] at this; simpa using this
  refine ev_aload_n_0 (pc := 0) dX7_undo_0 ?_
  refine ev_getR (pc := 1) (r := 9) dX7_undo_1 fl_X7_33 (by decide) (by decide) (by decide) (by decide) ?_
  refine ev_getI (pc := 4) dX7_undo_4 fl_X7_132 (by decide) (by decide) (by decide) ?_
  refine ev_if_gt (pc := 7) (tgt := 13) dX7_undo_7 (by decide) (fun h7 => ?_) (fun h7 => by exact absurd (by rw [hk, hl]; exact nI_lt (a := 0) (Nat.succ_pos _) (by simp; omega)) h7)
  refine ev_aload_n_0 (pc := 13) dX7_undo_13 ?_
  refine ev_getR (pc := 14) (r := 9) dX7_undo_14 fl_X7_33 (by decide) (by decide) (by decide) (by decide) ?_
  refine ev_aload_n_0 (pc := 17) dX7_undo_17 ?_
  refine ev_getR (pc := 18) (r := 39) dX7_undo_18 fl_X7_26 (by decide) (by decide) (by decide) (by decide) ?_
  refine ev_callV1 (pc := 21) dX7_undo_21 ml_X7_148 (m_X1_bringBack nx hx σ hn) (by decide) ⟨_, rfl, rfl⟩ rfl (by decide) rfl (Nat.le_of_ble_eq_true rfl) ?_
  exact ev_ireturn (pc := 24) dX7_undo_24 rfl rfl (⟨by rw [hQ.2], hQ.1, (frC_wr (by decide)).tr ((frC_wr (by decide)).tr (frC_bec (by decide)))⟩)
set_option maxRecDepth 100000 in
theorem m_X7_undo1 {S : Scr} {A : Abs} (hl : aP A = []) (σ : Sto) (h : RC A σ) : Mt S yX7_undo cX7_undo 1 (some .int) 3 [.ref 0] σ (Is (some (.int (-2))) σ) := by
  refine mt_of (ls := [.ref 0]) (by decide) rfl (Nat.le_of_ble_eq_true rfl) (by simp [Value.category]) ?_
  obtain ⟨nx, hx, hn, hk⟩ := h.past0
  refine ev_aload_n_0 (pc := 0) dX7_undo_0 ?_
  refine ev_getR (pc := 1) (r := 9) dX7_undo_1 fl_X7_33 (by decide) (by decide) (by decide) (by decide) ?_
  refine ev_getI (pc := 4) dX7_undo_4 fl_X7_132 (by decide) (by decide) (by decide) ?_
  refine ev_if_gt (pc := 7) (tgt := 13) dX7_undo_7 (by decide) (fun h7 => by exact absurd h7 (by rw [hk, hl]; decide)) (fun h7 => ?_)
  refine ev_bipush (pc := 10) (v := (-2)) dX7_undo_10 (by decide) ?_
  exact ev_ireturn (pc := 12) dX7_undo_12 rfl rfl (⟨rfl, rfl⟩)
theorem RC.ntc {A : Abs} {σ : Sto} (h : RC A σ) (hl : (aS A).length < 4) (m : Int32) : RC (setS A (aS A ++ [((aC A).1, m)])) (ntW σ (aS A).length m) ∧ FrC σ (ntW σ (aS A).length m) := by
  unfold ntW
  refine ⟨h.seen rfl (fun k a b c _ => by rw [wr_ne a, wr_ne b, cp0_ne (by omega)]) ⟨?_, fun i e he => ?_⟩ (fun e he p hp => ?_) (by simp; omega), FrC.of (fun c hc => by rw [wr_ne (by omega), wr_ne (by omega), cp0_ne (by omega)]) rfl⟩
  · rw [wr_at]; show _ = nI (aS A ++ [((aC A).1, m)]).length; rw [List.length_append]; rfl
  · have he' : (aS A ++ [((aC A).1, m)])[i]? = some e := he
    rcases Nat.lt_or_ge i (aS A).length with z | z
    · rw [List.getElem?_append_left z] at he'
      obtain ⟨q1, q2⟩ := h.2.2.2.2.2.1.2 i e he'
      exact ⟨fun p hp => by rw [wr_ne (by omega), wr_ne (by omega), cp0_ne (by omega)]; exact q1 p hp, by rw [wr_ne (by decide), wr_nj (by omega), cp0_ne (by omega)]; exact q2⟩
    · rw [List.getElem?_append_right z] at he'
      have h0 : i - (aS A).length < 1 := (List.getElem?_eq_some_iff.mp he').1
      obtain rfl : i = (aS A).length := by omega
      rw [Nat.sub_self] at he'
      cases he'
      exact ⟨fun p hp => by rw [wr_ne (by omega), wr_ne (by omega)]; unfold cp0; simp only [hp, and_self, if_true]; exact h.potE hp, by rw [wr_ne (by decide), wr_at]⟩
  · rcases List.mem_append.mp he with z | z
    · exact h.1.2.2.2.2.2.1 e z p hp
    · rw [List.mem_singleton.mp z]; exact h.1.2.2.1.1 p hp
set_option maxRecDepth 100000 in
theorem m_X7_sees {S : Scr} {A : Abs} (m : Int32) (hm : ¬ m < 0 ∧ m < 9) (hl : (aS A).length < 4) (σ : Sto) (h : RC A σ) : Mt S yX7_sees cX7_sees 2 (some .int) 3 [.ref 0, .int m] σ (PC (setS A (aS A ++ [((aC A).1, m)])) σ (nI ((aS A).length + 1))) := by
  refine mt_of (ls := [.ref 0, .int m]) (by decide) rfl (Nat.le_of_ble_eq_true rfl) (by simp [Value.category]) ?_
  have hs := h.2.2.2.2.2.1.1
  have hQ := h.ntc hl m
  refine ev_iload_n_1 (pc := 0) dX7_sees_0 ?_
  refine ev_if_lt (pc := 1) (tgt := 10) dX7_sees_1 (by decide) (fun h1 => by exact absurd h1 hm.1) (fun h1 => ?_)
  refine ev_iload_n_1 (pc := 4) dX7_sees_4 ?_
  refine ev_bipush (pc := 5) (v := 9) dX7_sees_5 (by decide) ?_
  refine ev_icmp_lt (pc := 7) (tgt := 12) dX7_sees_7 (by decide) (fun h7 => ?_) (fun h7 => by exact absurd hm.2 h7)
  refine ev_aload_n_0 (pc := 12) dX7_sees_12 ?_
  refine ev_getR (pc := 13) (r := 13) dX7_sees_13 fl_X7_48 (by decide) (by decide) (by decide) (by decide) ?_
  refine ev_getI (pc := 16) dX7_sees_16 fl_X7_184 (by decide) (by decide) (by decide) ?_
  refine ev_iconst (pc := 19) (v := 4) dX7_sees_19 (by decide) ?_
  refine ev_icmp_lt (pc := 20) (tgt := 26) dX7_sees_20 (by decide) (fun h20 => ?_) (fun h20 => by exact absurd (by rw [hs]; exact nI_lt (a := (aS A).length) (b := 4) hl (by decide)) h20)
  refine ev_aload_n_0 (pc := 26) dX7_sees_26 ?_
  refine ev_getR (pc := 27) (r := 13) dX7_sees_27 fl_X7_48 (by decide) (by decide) (by decide) (by decide) ?_
  refine ev_aload_n_0 (pc := 30) dX7_sees_30 ?_
  refine ev_getR (pc := 31) (r := 39) dX7_sees_31 fl_X7_26 (by decide) (by decide) (by decide) (by decide) ?_
  refine ev_getR (pc := 34) (r := 40) dX7_sees_34 fl_X7_81 (by decide) (by decide) (by decide) (by decide) ?_
  refine ev_iload_n_1 (pc := 37) dX7_sees_37 ?_
  refine ev_callV1 (pc := 38) dX7_sees_38 ml_X7_187 (m_X4_notice _ hl m σ hs) (by decide) ⟨_, rfl, rfl⟩ rfl (by decide) rfl (Nat.le_of_ble_eq_true rfl) ?_
  exact ev_ireturn (pc := 41) dX7_sees_41 rfl rfl (⟨rfl, hQ.1, hQ.2⟩)
set_option maxRecDepth 100000 in
theorem m_X7_sees1 {S : Scr} {A : Abs} (m : Int32) (hm : ¬ m < 0 ∧ m < 9) (hl : (aS A).length = 4) (σ : Sto) (h : RC A σ) : Mt S yX7_sees cX7_sees 2 (some .int) 3 [.ref 0, .int m] σ (Is (some (.int (-3))) σ) := by
  refine mt_of (ls := [.ref 0, .int m]) (by decide) rfl (Nat.le_of_ble_eq_true rfl) (by simp [Value.category]) ?_
  have hs := h.2.2.2.2.2.1.1
  refine ev_iload_n_1 (pc := 0) dX7_sees_0 ?_
  refine ev_if_lt (pc := 1) (tgt := 10) dX7_sees_1 (by decide) (fun h1 => by exact absurd h1 hm.1) (fun h1 => ?_)
  refine ev_iload_n_1 (pc := 4) dX7_sees_4 ?_
  refine ev_bipush (pc := 5) (v := 9) dX7_sees_5 (by decide) ?_
  refine ev_icmp_lt (pc := 7) (tgt := 12) dX7_sees_7 (by decide) (fun h7 => ?_) (fun h7 => by exact absurd hm.2 h7)
  refine ev_aload_n_0 (pc := 12) dX7_sees_12 ?_
  refine ev_getR (pc := 13) (r := 13) dX7_sees_13 fl_X7_48 (by decide) (by decide) (by decide) (by decide) ?_
  refine ev_getI (pc := 16) dX7_sees_16 fl_X7_184 (by decide) (by decide) (by decide) ?_
  refine ev_iconst (pc := 19) (v := 4) dX7_sees_19 (by decide) ?_
  refine ev_icmp_lt (pc := 20) (tgt := 26) dX7_sees_20 (by decide) (fun h20 => by exact absurd h20 (by rw [hs, hl]; decide)) (fun h20 => ?_)
  refine ev_bipush (pc := 23) (v := (-3)) dX7_sees_23 (by decide) ?_
  exact ev_ireturn (pc := 25) dX7_sees_25 rfl rfl (⟨rfl, rfl⟩)
set_option maxRecDepth 100000 in
theorem m_X7_sees0 {S : Scr} (m : Int32) (hm : ¬ (¬ m < 0 ∧ m < 9)) (σ : Sto) : Mt S yX7_sees cX7_sees 2 (some .int) 3 [.ref 0, .int m] σ (Is (some (.int (-1))) σ) := by
  refine mt_of (ls := [.ref 0, .int m]) (by decide) rfl (Nat.le_of_ble_eq_true rfl) (by simp [Value.category]) ?_
  refine ev_iload_n_1 (pc := 0) dX7_sees_0 ?_
  refine ev_if_lt (pc := 1) (tgt := 10) dX7_sees_1 (by decide) (fun h1 => ?_) (fun h1 => ?_)
  · skip
    refine ev_iconst (pc := 10) (v := (-1)) dX7_sees_10 (by decide) ?_
    exact ev_ireturn (pc := 11) dX7_sees_11 rfl rfl (⟨rfl, rfl⟩)
  · skip
    refine ev_iload_n_1 (pc := 4) dX7_sees_4 ?_
    refine ev_bipush (pc := 5) (v := 9) dX7_sees_5 (by decide) ?_
    refine ev_icmp_lt (pc := 7) (tgt := 12) dX7_sees_7 (by decide) (fun h7 => ?_) (fun h7 => ?_)
    · skip
      exact absurd ⟨h1, h7⟩ hm
    · skip
      refine ev_iconst (pc := 10) (v := (-1)) dX7_sees_10 (by decide) ?_
      exact ev_ireturn (pc := 11) dX7_sees_11 rfl rfl (⟨rfl, rfl⟩)
set_option maxRecDepth 100000 in
theorem m_X7_forget {S : Scr} {A : Abs} (σ : Sto) (h : RC A σ) : Mt S yX7_forget cX7_forget 2 (some .int) 0 [.ref 0] σ (PC (setS A []) σ (nI (aS A).length)) := by
  refine mt_of (ls := [.ref 0, .null]) (by decide) rfl (Nat.le_of_ble_eq_true rfl) (by simp [Value.category]) ?_
  refine ev_aload_n_0 (pc := 0) dX7_forget_0 ?_
  refine ev_getR (pc := 1) (r := 13) dX7_forget_1 fl_X7_48 (by decide) (by decide) (by decide) (by decide) ?_
  refine ev_getI (pc := 4) dX7_forget_4 fl_X7_184 (by decide) (by decide) (by decide) ?_
  refine ev_istore_n_1 (pc := 7) dX7_forget_7 (by decide) ?_
  refine ev_aload_n_0 (pc := 8) dX7_forget_8 ?_
  refine ev_getR (pc := 9) (r := 13) dX7_forget_9 fl_X7_48 (by decide) (by decide) (by decide) (by decide) ?_
  refine ev_iconst (pc := 12) (v := 0) dX7_forget_12 (by decide) ?_
  refine ev_putI (pc := 13) dX7_forget_13 fl_X7_184 (by decide) (by decide) (by decide) ?_
  refine ev_iload_n_1 (pc := 16) dX7_forget_16 ?_
  exact ev_ireturn (pc := 17) dX7_forget_17 rfl rfl (⟨by rw [h.2.2.2.2.2.1.1], h.seen rfl (fun k a b c _ => wr_ne a) ⟨wr_at, fun i e he => by have he2 : ([] : List ((Nat → Int32) × Int32))[i]? = some e := he; simp at he2⟩ (fun e he => by cases he) (Nat.zero_le _), frC_wr (by decide)⟩)
theorem frC_L {σ : Sto} {x : Int64} : FrC σ (wrL σ 0 x) := ⟨fun _ _ => rfl, fun c hc => if_neg hc⟩
set_option maxRecDepth 100000 in
theorem m_X7_asBrother {S : Scr} {A : Abs} (b : Nat) (hb : b < aN A) (σ : Sto) (h : RC A σ) : Mt S yX7_asBrother cX7_asBrother 2 (some .int) 4 [.ref 0, .int (nI b)] σ (PC (setR A (aR A + 1)) σ (mindA A b)) := by
  refine mt_of (ls := [.ref 0, .int (nI b)]) (by decide) rfl (Nat.le_of_ble_eq_true rfl) (by simp [Value.category]) ?_
  have hb6 : b < 6 := Nat.lt_of_lt_of_le hb h.n6
  have hT := h.trc (x := aR A + 1)
  refine ev_aload_n_0 (pc := 0) dX7_asBrother_0 ?_
  refine ev_dup (pc := 1) dX7_asBrother_1 rfl ?_
  refine ev_getL (pc := 2) dX7_asBrother_2 fl_X7_237 (by decide) (by decide) (by decide) ?_
  refine ev_lconst (pc := 5) (v := 1) dX7_asBrother_5 (by decide) ?_
  refine ev_ladd (pc := 6) dX7_asBrother_6 ?_
  rw [h.2.2.2.2.2.2.2.1]
  refine ev_putL (pc := 7) dX7_asBrother_7 fl_X7_237 (by decide) (by decide) (by decide) (by decide) ?_
  refine ev_aload_n_0 (pc := 10) dX7_asBrother_10 ?_
  refine ev_getR (pc := 11) (r := 5) dX7_asBrother_11 fl_X7_19 (by decide) (by decide) (by decide) (by decide) ?_
  refine ev_iload_n_1 (pc := 14) dX7_asBrother_14 ?_
  refine ev_aload_n_0 (pc := 15) dX7_asBrother_15 ?_
  refine ev_getR (pc := 16) (r := 39) dX7_asBrother_16 fl_X7_26 (by decide) (by decide) (by decide) (by decide) ?_
  refine ev_callV1 (pc := 19) dX7_asBrother_19 ml_X7_107 (m_X0_mindOf isSc_39 b hb6 _) (by decide) ⟨_, rfl, rfl⟩ rfl (by decide) rfl (Nat.le_of_ble_eq_true rfl) ?_
  exact ev_ireturn (pc := 22) dX7_asBrother_22 rfl rfl (⟨by rw [hT.mind hb], hT, frC_L⟩)
set_option maxRecDepth 100000 in
theorem m_X7_asNovice {S : Scr} {A : Abs} (b : Nat) (hb : b < aN A) (σ : Sto) (h : RC A σ) : Mt S yX7_asNovice cX7_asNovice 2 (some .int) 5 [.ref 0, .int (nI b)] σ (PC (setR A (aR A + 10 + 1)) σ (mindA A b + aB A b)) := by
  refine mt_of (ls := [.ref 0, .int (nI b)]) (by decide) rfl (Nat.le_of_ble_eq_true rfl) (by simp [Value.category]) ?_
  have hb6 : b < 6 := Nat.lt_of_lt_of_le hb h.n6
  refine ev_aload_n_0 (pc := 0) dX7_asNovice_0 ?_
  refine ev_dup (pc := 1) dX7_asNovice_1 rfl ?_
  refine ev_getL (pc := 2) dX7_asNovice_2 fl_X7_237 (by decide) (by decide) (by decide) ?_
  refine ev_ldc2 (pc := 5) dX7_asNovice_5 k_X7_254 ?_
  refine ev_ladd (pc := 8) dX7_asNovice_8 ?_
  rw [h.2.2.2.2.2.2.2.1]
  refine ev_putL (pc := 9) dX7_asNovice_9 fl_X7_237 (by decide) (by decide) (by decide) (by decide) ?_
  generalize aR A + 10 = z
  have hT := h.trc (x := z)
  refine ev_aload_n_0 (pc := 12) dX7_asNovice_12 ?_
  refine ev_iload_n_1 (pc := 13) dX7_asNovice_13 ?_
  refine ev_callV (pc := 14) dX7_asNovice_14 ml_X7_207 (m_X7_asBrother (A := setR A z) b hb _ hT) (by decide) ⟨_, rfl, rfl⟩ rfl (by decide) rfl (Nat.le_of_ble_eq_true rfl) ?_
  rintro _ τ ⟨rfl, g1, g2⟩
  have g1 : RC (setR A (z + 1)) τ := g1
  refine ev_aload_n_0 (pc := 17) dX7_asNovice_17 ?_
  refine ev_getR (pc := 18) (r := 5) dX7_asNovice_18 fl_X7_19 (by decide) (by decide) (by decide) (by decide) ?_
  refine ev_getR (pc := 21) (r := 6) dX7_asNovice_21 fl_X7_88 (by decide) (by decide) (by decide) (by decide) ?_
  refine ev_iload_n_1 (pc := 24) dX7_asNovice_24 ?_
  refine ev_aaload' (pc := 25) (r := (25 + 2 * b)) (j := b) dX7_asNovice_25 (by decide) (c := 14) (by decide) (by decide) (by decide) (show vp_in _ 6 from (vp_in_nI (by omega) (by decide))) (nI_clamp (by omega)) (rf6 b) ?_
  refine ev_getI (pc := 26) dX7_asNovice_26 fl_X7_97 (isTa_of hb6).lt (isTa_of hb6).kd0 (by decide) ?_
  refine ev_iadd (pc := 29) dX7_asNovice_29 ?_
  exact ev_ireturn (pc := 30) dX7_asNovice_30 rfl rfl (⟨by rw [(g1.2.1.2 b hb).2], g1, frC_L.tr g2⟩)
set_option maxRecDepth 100000 in
theorem m_X7_asAbbot {S : Scr} {A : Abs} (b : Nat) (hb : b < aN A) (σ : Sto) (h : RC A σ) : Mt S yX7_asAbbot cX7_asAbbot 2 (some .int) 5 [.ref 0, .int (nI b)] σ (PC (setR A (aR A + 100 + 1)) σ (mindA A b - mienA A b)) := by
  refine mt_of (ls := [.ref 0, .int (nI b)]) (by decide) rfl (Nat.le_of_ble_eq_true rfl) (by simp [Value.category]) ?_
  have hb6 : b < 6 := Nat.lt_of_lt_of_le hb h.n6
  refine ev_aload_n_0 (pc := 0) dX7_asAbbot_0 ?_
  refine ev_dup (pc := 1) dX7_asAbbot_1 rfl ?_
  refine ev_getL (pc := 2) dX7_asAbbot_2 fl_X7_237 (by decide) (by decide) (by decide) ?_
  refine ev_ldc2 (pc := 5) dX7_asAbbot_5 k_X7_256 ?_
  refine ev_ladd (pc := 8) dX7_asAbbot_8 ?_
  rw [h.2.2.2.2.2.2.2.1]
  refine ev_putL (pc := 9) dX7_asAbbot_9 fl_X7_237 (by decide) (by decide) (by decide) (by decide) ?_
  generalize aR A + 100 = z
  have hT := h.trc (x := z)
  refine ev_aload_n_0 (pc := 12) dX7_asAbbot_12 ?_
  refine ev_iload_n_1 (pc := 13) dX7_asAbbot_13 ?_
  refine ev_callV (pc := 14) dX7_asAbbot_14 ml_X7_207 (m_X7_asBrother (A := setR A z) b hb _ hT) (by decide) ⟨_, rfl, rfl⟩ rfl (by decide) rfl (Nat.le_of_ble_eq_true rfl) ?_
  rintro _ τ ⟨rfl, g1, g2⟩
  have g1 : RC (setR A (z + 1)) τ := g1
  refine ev_aload_n_0 (pc := 17) dX7_asAbbot_17 ?_
  refine ev_getR (pc := 18) (r := 5) dX7_asAbbot_18 fl_X7_19 (by decide) (by decide) (by decide) (by decide) ?_
  refine ev_iload_n_1 (pc := 21) dX7_asAbbot_21 ?_
  refine ev_aload_n_0 (pc := 22) dX7_asAbbot_22 ?_
  refine ev_getR (pc := 23) (r := 39) dX7_asAbbot_23 fl_X7_26 (by decide) (by decide) (by decide) (by decide) ?_
  refine ev_callV1 (pc := 26) dX7_asAbbot_26 ml_X7_103 (m_X0_mienOf isSc_39 b hb6 _) (by decide) ⟨_, rfl, rfl⟩ rfl (by decide) rfl (Nat.le_of_ble_eq_true rfl) ?_
  refine ev_isub (pc := 29) dX7_asAbbot_29 ?_
  exact ev_ireturn (pc := 30) dX7_asAbbot_30 rfl rfl (⟨by rw [g1.mien hb], g1, frC_L.tr g2⟩)
set_option maxRecDepth 100000 in
theorem m_X7_asGiles {S : Scr} {A : Abs} (b : Nat) (hb : b < aN A) (σ : Sto) (h : RC A σ) : Mt S yX7_asGiles cX7_asGiles 2 (some .int) 6 [.ref 0, .int (nI b)] σ (PC (setR A (aR A + 1000 + 10 + 1)) σ (2 * (mindA A b + aB A b))) := by
  refine mt_of (ls := [.ref 0, .int (nI b)]) (by decide) rfl (Nat.le_of_ble_eq_true rfl) (by simp [Value.category]) ?_
  have hb6 : b < 6 := Nat.lt_of_lt_of_le hb h.n6
  refine ev_aload_n_0 (pc := 0) dX7_asGiles_0 ?_
  refine ev_dup (pc := 1) dX7_asGiles_1 rfl ?_
  refine ev_getL (pc := 2) dX7_asGiles_2 fl_X7_237 (by decide) (by decide) (by decide) ?_
  refine ev_ldc2 (pc := 5) dX7_asGiles_5 k_X7_258 ?_
  refine ev_ladd (pc := 8) dX7_asGiles_8 ?_
  rw [h.2.2.2.2.2.2.2.1]
  refine ev_putL (pc := 9) dX7_asGiles_9 fl_X7_237 (by decide) (by decide) (by decide) (by decide) ?_
  generalize aR A + 1000 = z
  have hT := h.trc (x := z)
  refine ev_iconst (pc := 12) (v := 2) dX7_asGiles_12 (by decide) ?_
  refine ev_aload_n_0 (pc := 13) dX7_asGiles_13 ?_
  refine ev_iload_n_1 (pc := 14) dX7_asGiles_14 ?_
  refine ev_callV (pc := 15) dX7_asGiles_15 ml_X7_210 (m_X7_asNovice (A := setR A z) b hb _ hT) (by decide) ⟨_, rfl, rfl⟩ rfl (by decide) rfl (Nat.le_of_ble_eq_true rfl) ?_
  rintro _ τ ⟨rfl, g1, g2⟩
  have g1 : RC (setR A (z + 10 + 1)) τ := g1
  refine ev_imul (pc := 18) dX7_asGiles_18 ?_
  exact ev_ireturn (pc := 19) dX7_asGiles_19 rfl rfl (⟨rfl, g1, frC_L.tr g2⟩)
set_option maxRecDepth 100000 in
theorem m_X7_asPrior {S : Scr} {A : Abs} (b : Nat) (hb : b < aN A) (σ : Sto) (h : RC A σ) : Mt S yX7_asPrior cX7_asPrior 2 (some .int) 6 [.ref 0, .int (nI b)] σ (PC (setR A (aR A + 10000 + 100 + 1)) σ (mindA A b - mienA A b + nI b)) := by
  refine mt_of (ls := [.ref 0, .int (nI b)]) (by decide) rfl (Nat.le_of_ble_eq_true rfl) (by simp [Value.category]) ?_
  have hb6 : b < 6 := Nat.lt_of_lt_of_le hb h.n6
  refine ev_aload_n_0 (pc := 0) dX7_asPrior_0 ?_
  refine ev_dup (pc := 1) dX7_asPrior_1 rfl ?_
  refine ev_getL (pc := 2) dX7_asPrior_2 fl_X7_237 (by decide) (by decide) (by decide) ?_
  refine ev_ldc2 (pc := 5) dX7_asPrior_5 k_X7_260 ?_
  refine ev_ladd (pc := 8) dX7_asPrior_8 ?_
  rw [h.2.2.2.2.2.2.2.1]
  refine ev_putL (pc := 9) dX7_asPrior_9 fl_X7_237 (by decide) (by decide) (by decide) (by decide) ?_
  generalize aR A + 10000 = z
  have hT := h.trc (x := z)
  refine ev_aload_n_0 (pc := 12) dX7_asPrior_12 ?_
  refine ev_iload_n_1 (pc := 13) dX7_asPrior_13 ?_
  refine ev_callV (pc := 14) dX7_asPrior_14 ml_X7_213 (m_X7_asAbbot (A := setR A z) b hb _ hT) (by decide) ⟨_, rfl, rfl⟩ rfl (by decide) rfl (Nat.le_of_ble_eq_true rfl) ?_
  rintro _ τ ⟨rfl, g1, g2⟩
  have g1 : RC (setR A (z + 100 + 1)) τ := g1
  refine ev_iload_n_1 (pc := 17) dX7_asPrior_17 ?_
  refine ev_iadd (pc := 18) dX7_asPrior_18 ?_
  exact ev_ireturn (pc := 19) dX7_asPrior_19 rfl rfl (⟨rfl, g1, frC_L.tr g2⟩)
set_option maxRecDepth 100000 in
theorem m_X7_asCellarer {S : Scr} {A : Abs} (b : Nat) (hb : b < aN A) (σ : Sto) (h : RC A σ) : Mt S yX7_asCellarer cX7_asCellarer 2 (some .int) 5 [.ref 0, .int (nI b)] σ (PC (setR A (aR A + 100000 + 1)) σ (mindA A b + totA (aC A))) := by
  refine mt_of (ls := [.ref 0, .int (nI b)]) (by decide) rfl (Nat.le_of_ble_eq_true rfl) (by simp [Value.category]) ?_
  have hb6 : b < 6 := Nat.lt_of_lt_of_le hb h.n6
  refine ev_aload_n_0 (pc := 0) dX7_asCellarer_0 ?_
  refine ev_dup (pc := 1) dX7_asCellarer_1 rfl ?_
  refine ev_getL (pc := 2) dX7_asCellarer_2 fl_X7_237 (by decide) (by decide) (by decide) ?_
  refine ev_ldc2 (pc := 5) dX7_asCellarer_5 k_X7_262 ?_
  refine ev_ladd (pc := 8) dX7_asCellarer_8 ?_
  rw [h.2.2.2.2.2.2.2.1]
  refine ev_putL (pc := 9) dX7_asCellarer_9 fl_X7_237 (by decide) (by decide) (by decide) (by decide) ?_
  generalize aR A + 100000 = z
  have hT := h.trc (x := z)
  refine ev_aload_n_0 (pc := 12) dX7_asCellarer_12 ?_
  refine ev_iload_n_1 (pc := 13) dX7_asCellarer_13 ?_
  refine ev_callV (pc := 14) dX7_asCellarer_14 ml_X7_207 (m_X7_asBrother (A := setR A z) b hb _ hT) (by decide) ⟨_, rfl, rfl⟩ rfl (by decide) rfl (Nat.le_of_ble_eq_true rfl) ?_
  rintro _ τ ⟨rfl, g1, g2⟩
  have g1 : RC (setR A (z + 1)) τ := g1
  refine ev_aload_n_0 (pc := 17) dX7_asCellarer_17 ?_
  refine ev_getR (pc := 18) (r := 39) dX7_asCellarer_18 fl_X7_26 (by decide) (by decide) (by decide) (by decide) ?_
  refine ev_getR (pc := 21) (r := 40) dX7_asCellarer_21 fl_X7_81 (by decide) (by decide) (by decide) (by decide) ?_
  refine ev_callS1 (pc := 24) dX7_asCellarer_24 ml_X7_125 (m_X7_total isA_40 _) rfl (by decide) rfl (Nat.le_of_ble_eq_true rfl) ?_
  refine ev_iadd (pc := 27) dX7_asCellarer_27 ?_
  exact ev_ireturn (pc := 28) dX7_asCellarer_28 rfl rfl (⟨by rw [g1.tot], g1, frC_L.tr g2⟩)
def ratV (A : Abs) (b k : Nat) : Int32 := if k = 0 then mindA A b else if k = 1 then mindA A b + aB A b else if k = 2 then mindA A b - mienA A b else if k = 3 then 2 * (mindA A b + aB A b) else if k = 4 then mindA A b - mienA A b + nI b else mindA A b + totA (aC A)
def ratT (A : Abs) (k : Nat) : Int64 := if k = 0 then aR A + 1 else if k = 1 then aR A + 10 + 1 else if k = 2 then aR A + 100 + 1 else if k = 3 then aR A + 1000 + 10 + 1 else if k = 4 then aR A + 10000 + 100 + 1 else aR A + 100000 + 1
set_option maxRecDepth 100000 in
theorem m_X7_rate_0 {S : Scr} {A : Abs} (b : Nat) (hb : b < aN A) (σ : Sto) (h : RC A σ) : Mt S yX7_rate cX7_rate 3 (some .int) 7 [.ref 0, .int 0, .int (nI b)] σ (PC (setR A (aR A + 1)) σ (mindA A b)) := by
  refine mt_of (ls := [.ref 0, .int 0, .int (nI b)]) (by decide) rfl (Nat.le_of_ble_eq_true rfl) (by simp [Value.category]) ?_
  refine ev_aload_n_0 (pc := 0) dX7_rate_0 ?_
  refine ev_getR (pc := 1) (r := 5) dX7_rate_1 fl_X7_19 (by decide) (by decide) (by decide) (by decide) ?_
  refine ev_iload_n_2 (pc := 4) dX7_rate_4 ?_
  refine ev_callV1 (pc := 5) dX7_rate_5 ml_X7_85 (m_X0_has _ σ) (by decide) ⟨_, rfl, rfl⟩ rfl (by decide) rfl (Nat.le_of_ble_eq_true rfl) ?_
  rw [has_t h hb]
  refine ev_if_ne (pc := 8) (tgt := 14) dX7_rate_8 (by decide) (fun h8 => ?_) (fun h8 => by exact absurd h8 (by decide))
  refine ev_iload_n_1 (pc := 14) dX7_rate_14 ?_
  refine ev_tableIn (pc := 15) (off := 37) (tgt := 52) dX7_rate_15 (by decide) (by decide) (by decide) (by decide) ?_
  refine ev_aload_n_0 (pc := 52) dX7_rate_52 ?_
  refine ev_iload_n_2 (pc := 53) dX7_rate_53 ?_
  refine ev_callV (pc := 54) dX7_rate_54 ml_X7_207 (m_X7_asBrother b hb σ h) (by decide) ⟨_, rfl, rfl⟩ rfl (by decide) rfl (Nat.le_of_ble_eq_true rfl) ?_
  rintro _ τ ⟨rfl, g1, g2⟩
  exact ev_ireturn (pc := 57) dX7_rate_57 rfl rfl (⟨rfl, g1, g2⟩)
set_option maxRecDepth 100000 in
theorem m_X7_rate_1 {S : Scr} {A : Abs} (b : Nat) (hb : b < aN A) (σ : Sto) (h : RC A σ) : Mt S yX7_rate cX7_rate 3 (some .int) 7 [.ref 0, .int 1, .int (nI b)] σ (PC (setR A (aR A + 10 + 1)) σ (mindA A b + aB A b)) := by
  refine mt_of (ls := [.ref 0, .int 1, .int (nI b)]) (by decide) rfl (Nat.le_of_ble_eq_true rfl) (by simp [Value.category]) ?_
  refine ev_aload_n_0 (pc := 0) dX7_rate_0 ?_
  refine ev_getR (pc := 1) (r := 5) dX7_rate_1 fl_X7_19 (by decide) (by decide) (by decide) (by decide) ?_
  refine ev_iload_n_2 (pc := 4) dX7_rate_4 ?_
  refine ev_callV1 (pc := 5) dX7_rate_5 ml_X7_85 (m_X0_has _ σ) (by decide) ⟨_, rfl, rfl⟩ rfl (by decide) rfl (Nat.le_of_ble_eq_true rfl) ?_
  rw [has_t h hb]
  refine ev_if_ne (pc := 8) (tgt := 14) dX7_rate_8 (by decide) (fun h8 => ?_) (fun h8 => by exact absurd h8 (by decide))
  refine ev_iload_n_1 (pc := 14) dX7_rate_14 ?_
  refine ev_tableIn (pc := 15) (off := 43) (tgt := 58) dX7_rate_15 (by decide) (by decide) (by decide) (by decide) ?_
  refine ev_aload_n_0 (pc := 58) dX7_rate_58 ?_
  refine ev_iload_n_2 (pc := 59) dX7_rate_59 ?_
  refine ev_callV (pc := 60) dX7_rate_60 ml_X7_210 (m_X7_asNovice b hb σ h) (by decide) ⟨_, rfl, rfl⟩ rfl (by decide) rfl (Nat.le_of_ble_eq_true rfl) ?_
  rintro _ τ ⟨rfl, g1, g2⟩
  exact ev_ireturn (pc := 63) dX7_rate_63 rfl rfl (⟨rfl, g1, g2⟩)
set_option maxRecDepth 100000 in
theorem m_X7_rate_2 {S : Scr} {A : Abs} (b : Nat) (hb : b < aN A) (σ : Sto) (h : RC A σ) : Mt S yX7_rate cX7_rate 3 (some .int) 7 [.ref 0, .int 2, .int (nI b)] σ (PC (setR A (aR A + 100 + 1)) σ (mindA A b - mienA A b)) := by
  refine mt_of (ls := [.ref 0, .int 2, .int (nI b)]) (by decide) rfl (Nat.le_of_ble_eq_true rfl) (by simp [Value.category]) ?_
  refine ev_aload_n_0 (pc := 0) dX7_rate_0 ?_
  refine ev_getR (pc := 1) (r := 5) dX7_rate_1 fl_X7_19 (by decide) (by decide) (by decide) (by decide) ?_
  refine ev_iload_n_2 (pc := 4) dX7_rate_4 ?_
  refine ev_callV1 (pc := 5) dX7_rate_5 ml_X7_85 (m_X0_has _ σ) (by decide) ⟨_, rfl, rfl⟩ rfl (by decide) rfl (Nat.le_of_ble_eq_true rfl) ?_
  rw [has_t h hb]
  refine ev_if_ne (pc := 8) (tgt := 14) dX7_rate_8 (by decide) (fun h8 => ?_) (fun h8 => by exact absurd h8 (by decide))
  refine ev_iload_n_1 (pc := 14) dX7_rate_14 ?_
  refine ev_tableIn (pc := 15) (off := 49) (tgt := 64) dX7_rate_15 (by decide) (by decide) (by decide) (by decide) ?_
  refine ev_aload_n_0 (pc := 64) dX7_rate_64 ?_
  refine ev_iload_n_2 (pc := 65) dX7_rate_65 ?_
  refine ev_callV (pc := 66) dX7_rate_66 ml_X7_213 (m_X7_asAbbot b hb σ h) (by decide) ⟨_, rfl, rfl⟩ rfl (by decide) rfl (Nat.le_of_ble_eq_true rfl) ?_
  rintro _ τ ⟨rfl, g1, g2⟩
  exact ev_ireturn (pc := 69) dX7_rate_69 rfl rfl (⟨rfl, g1, g2⟩)
set_option maxRecDepth 100000 in
theorem m_X7_rate_3 {S : Scr} {A : Abs} (b : Nat) (hb : b < aN A) (σ : Sto) (h : RC A σ) : Mt S yX7_rate cX7_rate 3 (some .int) 7 [.ref 0, .int 3, .int (nI b)] σ (PC (setR A (aR A + 1000 + 10 + 1)) σ (2 * (mindA A b + aB A b))) := by
  refine mt_of (ls := [.ref 0, .int 3, .int (nI b)]) (by decide) rfl (Nat.le_of_ble_eq_true rfl) (by simp [Value.category]) ?_
  refine ev_aload_n_0 (pc := 0) dX7_rate_0 ?_
  refine ev_getR (pc := 1) (r := 5) dX7_rate_1 fl_X7_19 (by decide) (by decide) (by decide) (by decide) ?_
  refine ev_iload_n_2 (pc := 4) dX7_rate_4 ?_
  refine ev_callV1 (pc := 5) dX7_rate_5 ml_X7_85 (m_X0_has _ σ) (by decide) ⟨_, rfl, rfl⟩ rfl (by decide) rfl (Nat.le_of_ble_eq_true rfl) ?_
  rw [has_t h hb]
  refine ev_if_ne (pc := 8) (tgt := 14) dX7_rate_8 (by decide) (fun h8 => ?_) (fun h8 => by exact absurd h8 (by decide))
  refine ev_iload_n_1 (pc := 14) dX7_rate_14 ?_
  refine ev_tableIn (pc := 15) (off := 55) (tgt := 70) dX7_rate_15 (by decide) (by decide) (by decide) (by decide) ?_
  refine ev_aload_n_0 (pc := 70) dX7_rate_70 ?_
  refine ev_iload_n_2 (pc := 71) dX7_rate_71 ?_
  refine ev_callV (pc := 72) dX7_rate_72 ml_X7_216 (m_X7_asGiles b hb σ h) (by decide) ⟨_, rfl, rfl⟩ rfl (by decide) rfl (Nat.le_of_ble_eq_true rfl) ?_
  rintro _ τ ⟨rfl, g1, g2⟩
  exact ev_ireturn (pc := 75) dX7_rate_75 rfl rfl (⟨rfl, g1, g2⟩)
set_option maxRecDepth 100000 in
theorem m_X7_rate_4 {S : Scr} {A : Abs} (b : Nat) (hb : b < aN A) (σ : Sto) (h : RC A σ) : Mt S yX7_rate cX7_rate 3 (some .int) 7 [.ref 0, .int 4, .int (nI b)] σ (PC (setR A (aR A + 10000 + 100 + 1)) σ (mindA A b - mienA A b + nI b)) := by
  refine mt_of (ls := [.ref 0, .int 4, .int (nI b)]) (by decide) rfl (Nat.le_of_ble_eq_true rfl) (by simp [Value.category]) ?_
  refine ev_aload_n_0 (pc := 0) dX7_rate_0 ?_
  refine ev_getR (pc := 1) (r := 5) dX7_rate_1 fl_X7_19 (by decide) (by decide) (by decide) (by decide) ?_
  refine ev_iload_n_2 (pc := 4) dX7_rate_4 ?_
  refine ev_callV1 (pc := 5) dX7_rate_5 ml_X7_85 (m_X0_has _ σ) (by decide) ⟨_, rfl, rfl⟩ rfl (by decide) rfl (Nat.le_of_ble_eq_true rfl) ?_
  rw [has_t h hb]
  refine ev_if_ne (pc := 8) (tgt := 14) dX7_rate_8 (by decide) (fun h8 => ?_) (fun h8 => by exact absurd h8 (by decide))
  refine ev_iload_n_1 (pc := 14) dX7_rate_14 ?_
  refine ev_tableIn (pc := 15) (off := 61) (tgt := 76) dX7_rate_15 (by decide) (by decide) (by decide) (by decide) ?_
  refine ev_aload_n_0 (pc := 76) dX7_rate_76 ?_
  refine ev_iload_n_2 (pc := 77) dX7_rate_77 ?_
  refine ev_callV (pc := 78) dX7_rate_78 ml_X7_219 (m_X7_asPrior b hb σ h) (by decide) ⟨_, rfl, rfl⟩ rfl (by decide) rfl (Nat.le_of_ble_eq_true rfl) ?_
  rintro _ τ ⟨rfl, g1, g2⟩
  exact ev_ireturn (pc := 81) dX7_rate_81 rfl rfl (⟨rfl, g1, g2⟩)
set_option maxRecDepth 100000 in
theorem m_X7_rate_5 {S : Scr} {A : Abs} (b : Nat) (hb : b < aN A) (σ : Sto) (h : RC A σ) : Mt S yX7_rate cX7_rate 3 (some .int) 7 [.ref 0, .int 5, .int (nI b)] σ (PC (setR A (aR A + 100000 + 1)) σ (mindA A b + totA (aC A))) := by
  refine mt_of (ls := [.ref 0, .int 5, .int (nI b)]) (by decide) rfl (Nat.le_of_ble_eq_true rfl) (by simp [Value.category]) ?_
  refine ev_aload_n_0 (pc := 0) dX7_rate_0 ?_
  refine ev_getR (pc := 1) (r := 5) dX7_rate_1 fl_X7_19 (by decide) (by decide) (by decide) (by decide) ?_
  refine ev_iload_n_2 (pc := 4) dX7_rate_4 ?_
  refine ev_callV1 (pc := 5) dX7_rate_5 ml_X7_85 (m_X0_has _ σ) (by decide) ⟨_, rfl, rfl⟩ rfl (by decide) rfl (Nat.le_of_ble_eq_true rfl) ?_
  rw [has_t h hb]
  refine ev_if_ne (pc := 8) (tgt := 14) dX7_rate_8 (by decide) (fun h8 => ?_) (fun h8 => by exact absurd h8 (by decide))
  refine ev_iload_n_1 (pc := 14) dX7_rate_14 ?_
  refine ev_tableIn (pc := 15) (off := 67) (tgt := 82) dX7_rate_15 (by decide) (by decide) (by decide) (by decide) ?_
  refine ev_aload_n_0 (pc := 82) dX7_rate_82 ?_
  refine ev_iload_n_2 (pc := 83) dX7_rate_83 ?_
  refine ev_callV (pc := 84) dX7_rate_84 ml_X7_222 (m_X7_asCellarer b hb σ h) (by decide) ⟨_, rfl, rfl⟩ rfl (by decide) rfl (Nat.le_of_ble_eq_true rfl) ?_
  rintro _ τ ⟨rfl, g1, g2⟩
  exact ev_ireturn (pc := 87) dX7_rate_87 rfl rfl (⟨rfl, g1, g2⟩)
theorem m_X7_rate {S : Scr} {A : Abs} (k : Nat) (hk : k < 6) (b : Nat) (hb : b < aN A) (σ : Sto) (h : RC A σ) : Mt S yX7_rate cX7_rate 3 (some .int) 7 [.ref 0, .int (nI k), .int (nI b)] σ (PC (setR A (ratT A k)) σ (ratV A b k)) := by
  match k, hk with
  | 0, _ => exact m_X7_rate_0 b hb σ h
  | 1, _ => exact m_X7_rate_1 b hb σ h
  | 2, _ => exact m_X7_rate_2 b hb σ h
  | 3, _ => exact m_X7_rate_3 b hb σ h
  | 4, _ => exact m_X7_rate_4 b hb σ h
  | 5, _ => exact m_X7_rate_5 b hb σ h
set_option maxRecDepth 100000 in
theorem m_X7_rate0 {S : Scr} {A : Abs} (k b : Int32) (hb : ¬ ((¬ k < 0 ∧ k < 6) ∧ okB A b)) (σ : Sto) (h : RC A σ) : Mt S yX7_rate cX7_rate 3 (some .int) 7 [.ref 0, .int k, .int b] σ (Is (some (.int (-1000000))) σ) := by
  refine mt_of (ls := [.ref 0, .int k, .int b]) (by decide) rfl (Nat.le_of_ble_eq_true rfl) (by simp [Value.category]) ?_
  refine ev_aload_n_0 (pc := 0) dX7_rate_0 ?_
  refine ev_getR (pc := 1) (r := 5) dX7_rate_1 fl_X7_19 (by decide) (by decide) (by decide) (by decide) ?_
  refine ev_iload_n_2 (pc := 4) dX7_rate_4 ?_
  refine ev_callV1 (pc := 5) dX7_rate_5 ml_X7_85 (m_X0_has _ σ) (by decide) ⟨_, rfl, rfl⟩ rfl (by decide) rfl (Nat.le_of_ble_eq_true rfl) ?_
  refine ev_if_ne (pc := 8) (tgt := 14) dX7_rate_8 (by decide) (fun h8 => ?_) (fun h8 => ?_)
  · skip
    refine ev_iload_n_1 (pc := 14) dX7_rate_14 ?_
    by_cases hs15_0 : k = 0
    · refine ev_tableIn (off := 37) (tgt := 52) dX7_rate_15 (by rw [hs15_0]; decide) (by rw [hs15_0]; decide) (by rw [hs15_0]; decide) (by decide) ?_
      exact absurd ⟨by rw [hs15_0]; decide, (by rw [h.m] at h8; exact Decidable.not_not.mp (fun z => h8 (bI0.mpr z)))⟩ hb
    by_cases hs15_1 : k = 1
    · refine ev_tableIn (off := 43) (tgt := 58) dX7_rate_15 (by rw [hs15_1]; decide) (by rw [hs15_1]; decide) (by rw [hs15_1]; decide) (by decide) ?_
      exact absurd ⟨by rw [hs15_1]; decide, (by rw [h.m] at h8; exact Decidable.not_not.mp (fun z => h8 (bI0.mpr z)))⟩ hb
    by_cases hs15_2 : k = 2
    · refine ev_tableIn (off := 49) (tgt := 64) dX7_rate_15 (by rw [hs15_2]; decide) (by rw [hs15_2]; decide) (by rw [hs15_2]; decide) (by decide) ?_
      exact absurd ⟨by rw [hs15_2]; decide, (by rw [h.m] at h8; exact Decidable.not_not.mp (fun z => h8 (bI0.mpr z)))⟩ hb
    by_cases hs15_3 : k = 3
    · refine ev_tableIn (off := 55) (tgt := 70) dX7_rate_15 (by rw [hs15_3]; decide) (by rw [hs15_3]; decide) (by rw [hs15_3]; decide) (by decide) ?_
      exact absurd ⟨by rw [hs15_3]; decide, (by rw [h.m] at h8; exact Decidable.not_not.mp (fun z => h8 (bI0.mpr z)))⟩ hb
    by_cases hs15_4 : k = 4
    · refine ev_tableIn (off := 61) (tgt := 76) dX7_rate_15 (by rw [hs15_4]; decide) (by rw [hs15_4]; decide) (by rw [hs15_4]; decide) (by decide) ?_
      exact absurd ⟨by rw [hs15_4]; decide, (by rw [h.m] at h8; exact Decidable.not_not.mp (fun z => h8 (bI0.mpr z)))⟩ hb
    by_cases hs15_5 : k = 5
    · refine ev_tableIn (off := 67) (tgt := 82) dX7_rate_15 (by rw [hs15_5]; decide) (by rw [hs15_5]; decide) (by rw [hs15_5]; decide) (by decide) ?_
      exact absurd ⟨by rw [hs15_5]; decide, (by rw [h.m] at h8; exact Decidable.not_not.mp (fun z => h8 (bI0.mpr z)))⟩ hb
    refine ev_tableOut (pc := 15) (tgt := 88) dX7_rate_15 (by have a0 := lv_neT hs15_0 (show ((0 : Int32)).toInt = 0 from rfl); have a1 := lv_neT hs15_1 (show ((1 : Int32)).toInt = 1 from rfl); have a2 := lv_neT hs15_2 (show ((2 : Int32)).toInt = 2 from rfl); have a3 := lv_neT hs15_3 (show ((3 : Int32)).toInt = 3 from rfl); have a4 := lv_neT hs15_4 (show ((4 : Int32)).toInt = 4 from rfl); have a5 := lv_neT hs15_5 (show ((5 : Int32)).toInt = 5 from rfl); omega) (by decide) ?_
    refine ev_ldc (pc := 88) dX7_rate_88 k_X7_113 ?_
    exact ev_ireturn (pc := 90) dX7_rate_90 rfl rfl (⟨rfl, rfl⟩)
  · skip
    refine ev_ldc (pc := 11) dX7_rate_11 k_X7_113 ?_
    exact ev_ireturn (pc := 13) dX7_rate_13 rfl rfl (⟨rfl, rfl⟩)
theorem RC.kep {A : Abs} {σ : Sto} (h : RC A σ) {i : Nat} (hi : i < 2) : RC (setI A (fun j => if j = i then some (aC A) else aI A j)) (wr (becW σ (47 + 4 * i) 39) 12 i 1) := by
  refine h.imag rfl (fun k a b _ => by rw [wr_ne a, becW_ne (by omega) (by omega) (by omega)]) (fun j hj => ⟨fun s hs => ?_, fun hs => ?_⟩) (fun j s hs => ?_)
  · have hs' : (if j = i then some (aC A) else aI A j) = some s := hs
    by_cases e : j = i
    · subst e
      rw [if_pos rfl] at hs'
      cases hs'
      exact ⟨wr_at, (scR_bec h.n6 (isSc_img hi) isSc_39 (by omega) h.2.2.1).mv' (fun k hk => wr_ne (by omega))⟩
    · rw [if_neg e] at hs'
      refine ⟨?_, (scR_bec_ne (isSc_img hi) (isSc_img hj) (by omega) ((h.2.2.2.2.1 j hj).1 s hs').2).mv' (fun k hk => wr_ne (by omega))⟩
      rw [wr_nj e, becW_ne (by omega) (by omega) (by omega)]; exact ((h.2.2.2.2.1 j hj).1 s hs').1
  · have hs' : (if j = i then some (aC A) else aI A j) = none := hs
    by_cases e : j = i
    · rw [if_pos e] at hs'; cases hs'
    · rw [if_neg e] at hs'
      rw [wr_nj e, becW_ne (by omega) (by omega) (by omega)]; exact (h.2.2.2.2.1 j hj).2 hs'
  · have hs' : (if j = i then some (aC A) else aI A j) = some s := hs
    by_cases e : j = i
    · rw [if_pos e] at hs'; cases hs'; exact h.1.2.2.1
    · rw [if_neg e] at hs'; exact h.1.2.2.2.2.1 j s hs'
theorem RC.bck {A : Abs} {σ : Sto} (h : RC A σ) {i : Nat} (hi : i < 2) {s : Scn} (hs : aI A i = some s) : RC (undA A s []) (wr (becW σ 39 (47 + 4 * i)) 9 2 0) := by
  have h1 : RC (setC A s) (becW σ 39 (47 + 4 * i)) := h.cur rfl (fun k a1 a2 a3 _ => becW_ne (by omega) (by omega) (by omega)) (scR_bec h.n6 isSc_39 (isSc_img hi) (by omega) ((h.2.2.2.2.1 i hi).1 s hs).2) (h.1.2.2.2.2.1 i s hs)
  obtain ⟨nx, a, b, -⟩ := h1.2.2.2.1
  exact h1.pst (l := []) rfl (fun k hk _ => wr_ne hk) (fun t ht => by cases ht) (by decide) ⟨nx, a, by rw [wr_nj (by decide)]; exact b, wr_at, fun i s hs => by have hs2 : ([] : List Scn)[i]? = some s := hs; simp at hs2⟩
set_option maxRecDepth 100000 in
theorem m_X7_keep {S : Scr} {A : Abs} (i : Nat) (hi : i < 2) (σ : Sto) (h : RC A σ) : Mt S yX7_keep cX7_keep 2 (some .int) 5 [.ref 0, .int (nI i)] σ (PC (setI A (fun j => if j = i then some (aC A) else aI A j)) σ (bcD (calmA' A))) := by
  refine mt_of (ls := [.ref 0, .int (nI i)]) (by decide) rfl (Nat.le_of_ble_eq_true rfl) (by simp [Value.category]) ?_
  have hQ := h.kep hi
  refine ev_iload_n_1 (pc := 0) dX7_keep_0 ?_
  refine ev_callS1 (pc := 1) dX7_keep_1 ml_X7_225 (m_X7_isImage _ σ) rfl (by decide) rfl (Nat.le_of_ble_eq_true rfl) ?_
  rw [img_t i hi]
  refine ev_if_ne (pc := 4) (tgt := 9) dX7_keep_4 (by decide) (fun h4 => ?_) (fun h4 => by exact absurd h4 (by decide))
  refine ev_aload_n_0 (pc := 9) dX7_keep_9 ?_
  refine ev_getR (pc := 10) (r := 11) dX7_keep_10 fl_X7_37 (by decide) (by decide) (by decide) (by decide) ?_
  refine ev_iload_n_1 (pc := 13) dX7_keep_13 ?_
  refine ev_aaload' (pc := 14) (r := (47 + 4 * i)) (j := i) dX7_keep_14 (by decide) (c := 13) (by decide) (by decide) (by decide) (show vp_in _ 2 from (vp_in_nI (by omega) (by decide))) (nI_clamp (by omega)) (rf11 i) ?_
  refine ev_aload_n_0 (pc := 15) dX7_keep_15 ?_
  refine ev_getR (pc := 16) (r := 39) dX7_keep_16 fl_X7_26 (by decide) (by decide) (by decide) (by decide) ?_
  refine ev_callV0 (pc := 19) dX7_keep_19 ml_X7_228 (m_X3_become (isSc_img hi) isSc_39 σ) (isSc_img hi).lt ⟨_, by rw [(isSc_img hi).kd0]; rfl, rfl⟩ rfl (by decide) rfl (Nat.le_of_ble_eq_true rfl) ?_
  refine ev_aload_n_0 (pc := 22) dX7_keep_22 ?_
  refine ev_getR (pc := 23) (r := 12) dX7_keep_23 fl_X7_41 (by decide) (by decide) (by decide) (by decide) ?_
  refine ev_iload_n_1 (pc := 26) dX7_keep_26 ?_
  refine ev_iconst (pc := 27) (v := 1) dX7_keep_27 (by decide) ?_
  refine ev_bastore' (pc := 28) (j := i) dX7_keep_28 (by decide) (by decide) (show vp_in _ 2 from (vp_in_nI (by omega) (by decide))) (nI_clamp (by omega)) (by decide) ?_
  refine ev_aload_n_0 (pc := 29) dX7_keep_29 ?_
  refine ev_getR (pc := 30) (r := 5) dX7_keep_30 fl_X7_19 (by decide) (by decide) (by decide) (by decide) ?_
  refine ev_aload_n_0 (pc := 33) dX7_keep_33 ?_
  refine ev_getR (pc := 34) (r := 39) dX7_keep_34 fl_X7_26 (by decide) (by decide) (by decide) (by decide) ?_
  refine ev_callV1 (pc := 37) dX7_keep_37 ml_X7_231 (m_X0_howManyCalm isSc_39 _ h.n6 _ hQ.m) (by decide) ⟨_, rfl, rfl⟩ rfl (by decide) rfl (Nat.le_of_ble_eq_true rfl) ?_
  exact ev_ireturn (pc := 40) dX7_keep_40 rfl rfl (⟨by rw [hQ.calm], hQ, (frC_bec (by omega)).tr (frC_wr (by decide))⟩)
set_option maxRecDepth 100000 in
theorem m_X7_keep0 {S : Scr} (i : Int32) (hi : ¬ (¬ i < 0 ∧ i < 2)) (σ : Sto) : Mt S yX7_keep cX7_keep 2 (some .int) 5 [.ref 0, .int i] σ (Is (some (.int (-1))) σ) := by
  refine mt_of (ls := [.ref 0, .int i]) (by decide) rfl (Nat.le_of_ble_eq_true rfl) (by simp [Value.category]) ?_
  refine ev_iload_n_1 (pc := 0) dX7_keep_0 ?_
  refine ev_callS1 (pc := 1) dX7_keep_1 ml_X7_225 (m_X7_isImage _ σ) rfl (by decide) rfl (Nat.le_of_ble_eq_true rfl) ?_
  rw [bI_f hi]
  refine ev_if_ne (pc := 4) (tgt := 9) dX7_keep_4 (by decide) (fun h4 => by exact absurd rfl h4) (fun h4 => ?_)
  refine ev_iconst (pc := 7) (v := (-1)) dX7_keep_7 (by decide) ?_
  exact ev_ireturn (pc := 8) dX7_keep_8 rfl rfl (⟨rfl, rfl⟩)
set_option maxRecDepth 100000 in
theorem m_X7_back {S : Scr} {A : Abs} (i : Nat) (hi : i < 2) (s : Scn) (hs : aI A i = some s) (σ : Sto) (h : RC A σ) : Mt S yX7_back cX7_back 2 (some .int) 5 [.ref 0, .int (nI i)] σ (PC (undA A s []) σ (bcD (calmA' (undA A s [])))) := by
  refine mt_of (ls := [.ref 0, .int (nI i)]) (by decide) rfl (Nat.le_of_ble_eq_true rfl) (by simp [Value.category]) ?_
  have hQ := h.bck hi hs
  have h1 := ((h.2.2.2.2.1 i hi).1 s hs).1
  refine ev_iload_n_1 (pc := 0) dX7_back_0 ?_
  refine ev_callS1 (pc := 1) dX7_back_1 ml_X7_225 (m_X7_isImage _ σ) rfl (by decide) rfl (Nat.le_of_ble_eq_true rfl) ?_
  rw [img_t i hi]
  refine ev_if_ne (pc := 4) (tgt := 9) dX7_back_4 (by decide) (fun h4 => ?_) (fun h4 => by exact absurd h4 (by decide))
  refine ev_aload_n_0 (pc := 9) dX7_back_9 ?_
  refine ev_getR (pc := 10) (r := 12) dX7_back_10 fl_X7_41 (by decide) (by decide) (by decide) (by decide) ?_
  refine ev_iload_n_1 (pc := 13) dX7_back_13 ?_
  refine ev_baload' (pc := 14) (j := i) dX7_back_14 (by decide) (by decide) (show vp_in _ 2 from (vp_in_nI (by omega) (by decide))) (nI_clamp (by omega)) ?_
  rw [h1]
  refine ev_if_ne (pc := 15) (tgt := 21) dX7_back_15 (by decide) (fun h15 => ?_) (fun h15 => by exact absurd h15 (by decide))
  refine ev_aload_n_0 (pc := 21) dX7_back_21 ?_
  refine ev_getR (pc := 22) (r := 39) dX7_back_22 fl_X7_26 (by decide) (by decide) (by decide) (by decide) ?_
  refine ev_aload_n_0 (pc := 25) dX7_back_25 ?_
  refine ev_getR (pc := 26) (r := 11) dX7_back_26 fl_X7_37 (by decide) (by decide) (by decide) (by decide) ?_
  refine ev_iload_n_1 (pc := 29) dX7_back_29 ?_
  refine ev_aaload' (pc := 30) (r := (47 + 4 * i)) (j := i) dX7_back_30 (by decide) (c := 13) (by decide) (by decide) (by decide) (show vp_in _ 2 from (vp_in_nI (by omega) (by decide))) (nI_clamp (by omega)) (rf11 i) ?_
  refine ev_callV0 (pc := 31) dX7_back_31 ml_X7_228 (m_X3_become isSc_39 (isSc_img hi) σ) (by decide) ⟨_, rfl, rfl⟩ rfl (by decide) rfl (Nat.le_of_ble_eq_true rfl) ?_
  refine ev_aload_n_0 (pc := 34) dX7_back_34 ?_
  refine ev_getR (pc := 35) (r := 9) dX7_back_35 fl_X7_33 (by decide) (by decide) (by decide) (by decide) ?_
  refine ev_iconst (pc := 38) (v := 0) dX7_back_38 (by decide) ?_
  refine ev_putI (pc := 39) dX7_back_39 fl_X7_132 (by decide) (by decide) (by decide) ?_
  refine ev_aload_n_0 (pc := 42) dX7_back_42 ?_
  refine ev_getR (pc := 43) (r := 5) dX7_back_43 fl_X7_19 (by decide) (by decide) (by decide) (by decide) ?_
  refine ev_aload_n_0 (pc := 46) dX7_back_46 ?_
  refine ev_getR (pc := 47) (r := 39) dX7_back_47 fl_X7_26 (by decide) (by decide) (by decide) (by decide) ?_
  refine ev_callV1 (pc := 50) dX7_back_50 ml_X7_231 (m_X0_howManyCalm isSc_39 _ h.n6 _ hQ.m) (by decide) ⟨_, rfl, rfl⟩ rfl (by decide) rfl (Nat.le_of_ble_eq_true rfl) ?_
  exact ev_ireturn (pc := 53) dX7_back_53 rfl rfl (⟨by rw [hQ.calm], hQ, (frC_bec (by decide)).tr (frC_wr (by decide))⟩)
set_option maxRecDepth 100000 in
theorem m_X7_back1 {S : Scr} {A : Abs} (i : Nat) (hi : i < 2) (hs : aI A i = none) (σ : Sto) (h : RC A σ) : Mt S yX7_back cX7_back 2 (some .int) 5 [.ref 0, .int (nI i)] σ (Is (some (.int (-2))) σ) := by
  refine mt_of (ls := [.ref 0, .int (nI i)]) (by decide) rfl (Nat.le_of_ble_eq_true rfl) (by simp [Value.category]) ?_
  refine ev_iload_n_1 (pc := 0) dX7_back_0 ?_
  refine ev_callS1 (pc := 1) dX7_back_1 ml_X7_225 (m_X7_isImage _ σ) rfl (by decide) rfl (Nat.le_of_ble_eq_true rfl) ?_
  rw [img_t i hi]
  refine ev_if_ne (pc := 4) (tgt := 9) dX7_back_4 (by decide) (fun h4 => ?_) (fun h4 => by exact absurd h4 (by decide))
  refine ev_aload_n_0 (pc := 9) dX7_back_9 ?_
  refine ev_getR (pc := 10) (r := 12) dX7_back_10 fl_X7_41 (by decide) (by decide) (by decide) (by decide) ?_
  refine ev_iload_n_1 (pc := 13) dX7_back_13 ?_
  refine ev_baload' (pc := 14) (j := i) dX7_back_14 (by decide) (by decide) (show vp_in _ 2 from (vp_in_nI (by omega) (by decide))) (nI_clamp (by omega)) ?_
  rw [(h.2.2.2.2.1 i hi).2 hs]
  refine ev_if_ne (pc := 15) (tgt := 21) dX7_back_15 (by decide) (fun h15 => by exact absurd rfl h15) (fun h15 => ?_)
  refine ev_bipush (pc := 18) (v := (-2)) dX7_back_18 (by decide) ?_
  exact ev_ireturn (pc := 20) dX7_back_20 rfl rfl (⟨rfl, rfl⟩)
set_option maxRecDepth 100000 in
theorem m_X7_back0 {S : Scr} (i : Int32) (hi : ¬ (¬ i < 0 ∧ i < 2)) (σ : Sto) : Mt S yX7_back cX7_back 2 (some .int) 5 [.ref 0, .int i] σ (Is (some (.int (-1))) σ) := by
  refine mt_of (ls := [.ref 0, .int i]) (by decide) rfl (Nat.le_of_ble_eq_true rfl) (by simp [Value.category]) ?_
  refine ev_iload_n_1 (pc := 0) dX7_back_0 ?_
  refine ev_callS1 (pc := 1) dX7_back_1 ml_X7_225 (m_X7_isImage _ σ) rfl (by decide) rfl (Nat.le_of_ble_eq_true rfl) ?_
  rw [bI_f hi]
  refine ev_if_ne (pc := 4) (tgt := 9) dX7_back_4 (by decide) (fun h4 => by exact absurd rfl h4) (fun h4 => ?_)
  refine ev_iconst (pc := 7) (v := (-1)) dX7_back_7 (by decide) ?_
  exact ev_ireturn (pc := 8) dX7_back_8 rfl rfl (⟨rfl, rfl⟩)
