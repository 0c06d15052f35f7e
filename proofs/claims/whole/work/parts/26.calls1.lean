/-! ===== the class's calls, 1 ===== -/
abbrev PC (A' : Abs) (σ : Sto) (v : Int32) : Option Value → Sto → Prop := fun r τ => r = some (.int v) ∧ RC A' τ ∧ FrC σ τ
abbrev okB (A : Abs) (b : Int32) : Prop := ¬ b < 0 ∧ b < nI (aN A)
abbrev okP (p : Int32) : Prop := ¬ p < 0 ∧ p < 4
theorem nat_of {b : Int32} {n : Nat} (hn : n < 2 ^ 31) (h : ¬ b < 0 ∧ b < nI n) : ∃ k, k < n ∧ b = nI k := by
  obtain ⟨h1, h2⟩ := h
  rw [tI_lt, Int32.toInt_zero] at h1
  rw [tI_lt, nI_toInt hn] at h2
  refine ⟨b.toNatClampNeg, ?_, (nI_self (by omega)).symm⟩
  have := tn_of (i := b) (by omega)
  omega
theorem okB_nI {A : Abs} {k : Nat} (h : k < aN A) (hn : aN A ≤ 6) : okB A (nI k) := ⟨nI_pos (by omega), nI_lt h (by omega)⟩
theorem bI_t {P : Prop} [Decidable P] (h : P) : bI P = 1 := bI1.mpr h
theorem bI_f {P : Prop} [Decidable P] (h : ¬ P) : bI P = 0 := bI0.mpr h
theorem okP_nI : ∀ k, k < 4 → okP (nI k) := by decide +kernel
theorem has_t {A : Abs} {σ : Sto} (h : RC A σ) {k : Nat} (hk : k < aN A) : bI (¬ nI k < 0 ∧ nI k < σ.1 5 1) = 1 := by rw [h.m]; exact bI_t (okB_nI hk h.n6)
theorem has_f {A : Abs} {σ : Sto} (h : RC A σ) {b : Int32} (hb : ¬ okB A b) : bI (¬ b < 0 ∧ b < σ.1 5 1) = 0 := by rw [h.m]; exact bI_f hb
theorem part_t {k : Nat} (hk : k < 4) : bI (¬ nI k < 0 ∧ nI k < 4) = 1 := bI_t (okP_nI k hk)
theorem img_t : ∀ k, k < 2 → bI (¬ nI k < 0 ∧ nI k < 2) = 1 := by decide +kernel
theorem isA_40 : IsA 40 4 := ⟨by decide, by decide, by decide⟩
theorem isA_41 : IsA 41 6 := ⟨by decide, by decide, by decide⟩
theorem RC.potE {A : Abs} {σ : Sto} (h : RC A σ) {p : Nat} (hp : p < 4) : σ.1 40 p = (aC A).1 p := h.2.2.1.1 p hp
theorem RC.coldE {A : Abs} {σ : Sto} (h : RC A σ) {b : Nat} (hb : b < 6) : σ.1 41 b = (aC A).2.1 b := h.2.2.1.2.1 b hb
theorem RC.shownE {A : Abs} {σ : Sto} (h : RC A σ) {b : Nat} (hb : b < aN A) : σ.1 42 b = (aC A).2.2 b := h.2.2.1.2.2 b hb
set_option maxRecDepth 100000 in
theorem m_X7_pot {S : Scr} {A : Abs} (p : Nat) (hp : p < 4) (σ : Sto) (h : RC A σ) : Mt S yX7_pot cX7_pot 2 (some .int) 1 [.ref 0, .int (nI p)] σ (PC A σ ((aC A).1 p)) := by
  refine mt_of (ls := [.ref 0, .int (nI p)]) (by decide) rfl (Nat.le_of_ble_eq_true rfl) (by simp [Value.category]) ?_
  refine ev_iload_n_1 (pc := 0) dX7_pot_0 ?_
  refine ev_callS1 (pc := 1) dX7_pot_1 ml_X7_77 (m_X7_isPart _ σ) rfl (by decide) rfl (Nat.le_of_ble_eq_true rfl) ?_
  rw [part_t hp]
  refine ev_if_eq (pc := 4) (tgt := 19) dX7_pot_4 (by decide) (fun h4 => by exact absurd h4 (by decide)) (fun h4 => ?_)
  refine ev_aload_n_0 (pc := 7) dX7_pot_7 ?_
  refine ev_getR (pc := 8) (r := 39) dX7_pot_8 fl_X7_26 (by decide) (by decide) (by decide) (by decide) ?_
  refine ev_getR (pc := 11) (r := 40) dX7_pot_11 fl_X7_81 (by decide) (by decide) (by decide) (by decide) ?_
  refine ev_iload_n_1 (pc := 14) dX7_pot_14 ?_
  refine ev_iaload' (pc := 15) (j := p) dX7_pot_15 (by decide) (by decide) (show vp_in _ 4 from (vp_in_nI (by omega) (by decide))) (nI_clamp (by omega)) ?_
  refine ev_goto (pc := 16) (tgt := 20) dX7_pot_16 (by decide) ?_
  exact ev_ireturn (pc := 20) dX7_pot_20 rfl rfl (⟨by rw [h.potE hp], h, FrC.rf σ⟩)
set_option maxRecDepth 100000 in
theorem m_X7_pot0 {S : Scr} (p : Int32) (hp : ¬ okP p) (σ : Sto) : Mt S yX7_pot cX7_pot 2 (some .int) 1 [.ref 0, .int p] σ (Is (some (.int (-1))) σ) := by
  refine mt_of (ls := [.ref 0, .int p]) (by decide) rfl (Nat.le_of_ble_eq_true rfl) (by simp [Value.category]) ?_
  refine ev_iload_n_1 (pc := 0) dX7_pot_0 ?_
  refine ev_callS1 (pc := 1) dX7_pot_1 ml_X7_77 (m_X7_isPart _ σ) rfl (by decide) rfl (Nat.le_of_ble_eq_true rfl) ?_
  rw [bI_f hp]
  refine ev_if_eq (pc := 4) (tgt := 19) dX7_pot_4 (by decide) (fun h4 => ?_) (fun h4 => by exact absurd rfl h4)
  refine ev_iconst (pc := 19) (v := (-1)) dX7_pot_19 (by decide) ?_
  exact ev_ireturn (pc := 20) dX7_pot_20 rfl rfl (⟨rfl, rfl⟩)
set_option maxRecDepth 100000 in
theorem m_X7_brother_L {S : Scr} {A : Abs} (b : Nat) (hb : b < aN A) (w : Nat) (hw : w < 4) (σ : Sto) (h : RC A σ) : Mt S yX7_brother cX7_brother 3 (some .int) 3 [.ref 0, .int (nI b), .int (nI w)] σ (PC A σ (aL A b w)) := by
  refine mt_of (ls := [.ref 0, .int (nI b), .int (nI w)]) (by decide) rfl (Nat.le_of_ble_eq_true rfl) (by simp [Value.category]) ?_
  have hb6 : b < 6 := Nat.lt_of_lt_of_le hb h.n6
  refine ev_aload_n_0 (pc := 0) dX7_brother_0 ?_
  refine ev_getR (pc := 1) (r := 5) dX7_brother_1 fl_X7_19 (by decide) (by decide) (by decide) (by decide) ?_
  refine ev_iload_n_1 (pc := 4) dX7_brother_4 ?_
  refine ev_callV1 (pc := 5) dX7_brother_5 ml_X7_85 (m_X0_has _ σ) (by decide) ⟨_, rfl, rfl⟩ rfl (by decide) rfl (Nat.le_of_ble_eq_true rfl) ?_
  rw [has_t h hb]
  refine ev_if_eq (pc := 8) (tgt := 21) dX7_brother_8 (by decide) (fun h8 => by exact absurd h8 (by decide)) (fun h8 => ?_)
  refine ev_iload_n_2 (pc := 11) dX7_brother_11 ?_
  refine ev_if_lt (pc := 12) (tgt := 21) dX7_brother_12 (by decide) (fun h12 => by exact absurd h12 (nI_pos (by omega))) (fun h12 => ?_)
  refine ev_iload_n_2 (pc := 15) dX7_brother_15 ?_
  refine ev_bipush (pc := 16) (v := 8) dX7_brother_16 (by decide) ?_
  refine ev_icmp_le (pc := 18) (tgt := 23) dX7_brother_18 (by decide) (fun h18 => ?_) (fun h18 => by exact absurd (nI_le (a := w) (b := 8) (by omega) (by decide)) h18)
  refine ev_iload_n_2 (pc := 23) dX7_brother_23 ?_
  refine ev_iconst (pc := 24) (v := 4) dX7_brother_24 (by decide) ?_
  refine ev_icmp_ge (pc := 25) (tgt := 43) dX7_brother_25 (by decide) (fun h25 => by exact absurd h25 (nI_ge (a := w) (b := 4) hw (by decide))) (fun h25 => ?_)
  refine ev_aload_n_0 (pc := 28) dX7_brother_28 ?_
  refine ev_getR (pc := 29) (r := 5) dX7_brother_29 fl_X7_19 (by decide) (by decide) (by decide) (by decide) ?_
  refine ev_getR (pc := 32) (r := 6) dX7_brother_32 fl_X7_88 (by decide) (by decide) (by decide) (by decide) ?_
  refine ev_iload_n_1 (pc := 35) dX7_brother_35 ?_
  refine ev_aaload' (pc := 36) (r := (25 + 2 * b)) (j := b) dX7_brother_36 (by decide) (c := 14) (by decide) (by decide) (by decide) (show vp_in _ 6 from (vp_in_nI (by omega) (by decide))) (nI_clamp (by omega)) (rf6 b) ?_
  refine ev_getR (pc := 37) (r := ((25 + 2 * b) + 1)) dX7_brother_37 fl_X7_92 (isTa_of hb6).lt (isTa_of hb6).kd0 (by decide) ((isTa_of hb6).rfj 0) ?_
  refine ev_iload_n_2 (pc := 40) dX7_brother_40 ?_
  refine ev_iaload' (pc := 41) (j := w) dX7_brother_41 (isTa_of hb6).lt1 (isTa_of hb6).kd1 (by rw [(isTa_of hb6).ln1]; exact (vp_in_nI (by omega) (by decide))) (nI_clamp (by omega)) ?_
  exact ev_ireturn (pc := 42) dX7_brother_42 rfl rfl (⟨by rw [(h.2.1.2 b hb).1 w hw], h, FrC.rf σ⟩)
set_option maxRecDepth 100000 in
theorem m_X7_brother_4 {S : Scr} {A : Abs} (b : Nat) (hb : b < aN A) (σ : Sto) (h : RC A σ) : Mt S yX7_brother cX7_brother 3 (some .int) 3 [.ref 0, .int (nI b), .int 4] σ (PC A σ (aB A b)) := by
  refine mt_of (ls := [.ref 0, .int (nI b), .int 4]) (by decide) rfl (Nat.le_of_ble_eq_true rfl) (by simp [Value.category]) ?_
  have hb6 : b < 6 := Nat.lt_of_lt_of_le hb h.n6
  refine ev_aload_n_0 (pc := 0) dX7_brother_0 ?_
  refine ev_getR (pc := 1) (r := 5) dX7_brother_1 fl_X7_19 (by decide) (by decide) (by decide) (by decide) ?_
  refine ev_iload_n_1 (pc := 4) dX7_brother_4 ?_
  refine ev_callV1 (pc := 5) dX7_brother_5 ml_X7_85 (m_X0_has _ σ) (by decide) ⟨_, rfl, rfl⟩ rfl (by decide) rfl (Nat.le_of_ble_eq_true rfl) ?_
  rw [has_t h hb]
  refine ev_if_eq (pc := 8) (tgt := 21) dX7_brother_8 (by decide) (fun h8 => by exact absurd h8 (by decide)) (fun h8 => ?_)
  refine ev_iload_n_2 (pc := 11) dX7_brother_11 ?_
  refine ev_if_lt (pc := 12) (tgt := 21) dX7_brother_12 (by decide) (fun h12 => by exact absurd h12 (by decide)) (fun h12 => ?_)
  refine ev_iload_n_2 (pc := 15) dX7_brother_15 ?_
  refine ev_bipush (pc := 16) (v := 8) dX7_brother_16 (by decide) ?_
  refine ev_icmp_le (pc := 18) (tgt := 23) dX7_brother_18 (by decide) (fun h18 => ?_) (fun h18 => by exact absurd h18 (by decide))
  refine ev_iload_n_2 (pc := 23) dX7_brother_23 ?_
  refine ev_iconst (pc := 24) (v := 4) dX7_brother_24 (by decide) ?_
  refine ev_icmp_ge (pc := 25) (tgt := 43) dX7_brother_25 (by decide) (fun h25 => ?_) (fun h25 => by exact absurd h25 (by decide))
  refine ev_iload_n_2 (pc := 43) dX7_brother_43 ?_
  refine ev_tableIn (pc := 44) (off := 32) (tgt := 76) dX7_brother_44 (by decide) (by decide) (by decide) (by decide) ?_
  refine ev_aload_n_0 (pc := 76) dX7_brother_76 ?_
  refine ev_getR (pc := 77) (r := 5) dX7_brother_77 fl_X7_19 (by decide) (by decide) (by decide) (by decide) ?_
  refine ev_getR (pc := 80) (r := 6) dX7_brother_80 fl_X7_88 (by decide) (by decide) (by decide) (by decide) ?_
  refine ev_iload_n_1 (pc := 83) dX7_brother_83 ?_
  refine ev_aaload' (pc := 84) (r := (25 + 2 * b)) (j := b) dX7_brother_84 (by decide) (c := 14) (by decide) (by decide) (by decide) (show vp_in _ 6 from (vp_in_nI (by omega) (by decide))) (nI_clamp (by omega)) (rf6 b) ?_
  refine ev_getI (pc := 85) dX7_brother_85 fl_X7_97 (isTa_of hb6).lt (isTa_of hb6).kd0 (by decide) ?_
  exact ev_ireturn (pc := 88) dX7_brother_88 rfl rfl (⟨by rw [(h.2.1.2 b hb).2], h, FrC.rf σ⟩)
set_option maxRecDepth 100000 in
theorem m_X7_brother_5 {S : Scr} {A : Abs} (b : Nat) (hb : b < aN A) (σ : Sto) (h : RC A σ) : Mt S yX7_brother cX7_brother 3 (some .int) 3 [.ref 0, .int (nI b), .int 5] σ (PC A σ ((aC A).2.1 b)) := by
  refine mt_of (ls := [.ref 0, .int (nI b), .int 5]) (by decide) rfl (Nat.le_of_ble_eq_true rfl) (by simp [Value.category]) ?_
  have hb6 : b < 6 := Nat.lt_of_lt_of_le hb h.n6
  refine ev_aload_n_0 (pc := 0) dX7_brother_0 ?_
  refine ev_getR (pc := 1) (r := 5) dX7_brother_1 fl_X7_19 (by decide) (by decide) (by decide) (by decide) ?_
  refine ev_iload_n_1 (pc := 4) dX7_brother_4 ?_
  refine ev_callV1 (pc := 5) dX7_brother_5 ml_X7_85 (m_X0_has _ σ) (by decide) ⟨_, rfl, rfl⟩ rfl (by decide) rfl (Nat.le_of_ble_eq_true rfl) ?_
  rw [has_t h hb]
  refine ev_if_eq (pc := 8) (tgt := 21) dX7_brother_8 (by decide) (fun h8 => by exact absurd h8 (by decide)) (fun h8 => ?_)
  refine ev_iload_n_2 (pc := 11) dX7_brother_11 ?_
  refine ev_if_lt (pc := 12) (tgt := 21) dX7_brother_12 (by decide) (fun h12 => by exact absurd h12 (by decide)) (fun h12 => ?_)
  refine ev_iload_n_2 (pc := 15) dX7_brother_15 ?_
  refine ev_bipush (pc := 16) (v := 8) dX7_brother_16 (by decide) ?_
  refine ev_icmp_le (pc := 18) (tgt := 23) dX7_brother_18 (by decide) (fun h18 => ?_) (fun h18 => by exact absurd h18 (by decide))
  refine ev_iload_n_2 (pc := 23) dX7_brother_23 ?_
  refine ev_iconst (pc := 24) (v := 4) dX7_brother_24 (by decide) ?_
  refine ev_icmp_ge (pc := 25) (tgt := 43) dX7_brother_25 (by decide) (fun h25 => ?_) (fun h25 => by exact absurd h25 (by decide))
  refine ev_iload_n_2 (pc := 43) dX7_brother_43 ?_
  refine ev_tableIn (pc := 44) (off := 45) (tgt := 89) dX7_brother_44 (by decide) (by decide) (by decide) (by decide) ?_
  refine ev_aload_n_0 (pc := 89) dX7_brother_89 ?_
  refine ev_getR (pc := 90) (r := 39) dX7_brother_90 fl_X7_26 (by decide) (by decide) (by decide) (by decide) ?_
  refine ev_getR (pc := 93) (r := 41) dX7_brother_93 fl_X7_100 (by decide) (by decide) (by decide) (by decide) ?_
  refine ev_iload_n_1 (pc := 96) dX7_brother_96 ?_
  refine ev_iaload' (pc := 97) (j := b) dX7_brother_97 (by decide) (by decide) (show vp_in _ 6 from (vp_in_nI (by omega) (by decide))) (nI_clamp (by omega)) ?_
  exact ev_ireturn (pc := 98) dX7_brother_98 rfl rfl (⟨by rw [h.coldE hb6], h, FrC.rf σ⟩)
set_option maxRecDepth 100000 in
theorem m_X7_brother_6 {S : Scr} {A : Abs} (b : Nat) (hb : b < aN A) (σ : Sto) (h : RC A σ) : Mt S yX7_brother cX7_brother 3 (some .int) 3 [.ref 0, .int (nI b), .int 6] σ (PC A σ (mienA A b)) := by
  refine mt_of (ls := [.ref 0, .int (nI b), .int 6]) (by decide) rfl (Nat.le_of_ble_eq_true rfl) (by simp [Value.category]) ?_
  have hb6 : b < 6 := Nat.lt_of_lt_of_le hb h.n6
  refine ev_aload_n_0 (pc := 0) dX7_brother_0 ?_
  refine ev_getR (pc := 1) (r := 5) dX7_brother_1 fl_X7_19 (by decide) (by decide) (by decide) (by decide) ?_
  refine ev_iload_n_1 (pc := 4) dX7_brother_4 ?_
  refine ev_callV1 (pc := 5) dX7_brother_5 ml_X7_85 (m_X0_has _ σ) (by decide) ⟨_, rfl, rfl⟩ rfl (by decide) rfl (Nat.le_of_ble_eq_true rfl) ?_
  rw [has_t h hb]
  refine ev_if_eq (pc := 8) (tgt := 21) dX7_brother_8 (by decide) (fun h8 => by exact absurd h8 (by decide)) (fun h8 => ?_)
  refine ev_iload_n_2 (pc := 11) dX7_brother_11 ?_
  refine ev_if_lt (pc := 12) (tgt := 21) dX7_brother_12 (by decide) (fun h12 => by exact absurd h12 (by decide)) (fun h12 => ?_)
  refine ev_iload_n_2 (pc := 15) dX7_brother_15 ?_
  refine ev_bipush (pc := 16) (v := 8) dX7_brother_16 (by decide) ?_
  refine ev_icmp_le (pc := 18) (tgt := 23) dX7_brother_18 (by decide) (fun h18 => ?_) (fun h18 => by exact absurd h18 (by decide))
  refine ev_iload_n_2 (pc := 23) dX7_brother_23 ?_
  refine ev_iconst (pc := 24) (v := 4) dX7_brother_24 (by decide) ?_
  refine ev_icmp_ge (pc := 25) (tgt := 43) dX7_brother_25 (by decide) (fun h25 => ?_) (fun h25 => by exact absurd h25 (by decide))
  refine ev_iload_n_2 (pc := 43) dX7_brother_43 ?_
  refine ev_tableIn (pc := 44) (off := 55) (tgt := 99) dX7_brother_44 (by decide) (by decide) (by decide) (by decide) ?_
  refine ev_aload_n_0 (pc := 99) dX7_brother_99 ?_
  refine ev_getR (pc := 100) (r := 5) dX7_brother_100 fl_X7_19 (by decide) (by decide) (by decide) (by decide) ?_
  refine ev_iload_n_1 (pc := 103) dX7_brother_103 ?_
  refine ev_aload_n_0 (pc := 104) dX7_brother_104 ?_
  refine ev_getR (pc := 105) (r := 39) dX7_brother_105 fl_X7_26 (by decide) (by decide) (by decide) (by decide) ?_
  refine ev_callV1 (pc := 108) dX7_brother_108 ml_X7_103 (m_X0_mienOf isSc_39 b hb6 σ) (by decide) ⟨_, rfl, rfl⟩ rfl (by decide) rfl (Nat.le_of_ble_eq_true rfl) ?_
  exact ev_ireturn (pc := 111) dX7_brother_111 rfl rfl (⟨by rw [h.mien hb], h, FrC.rf σ⟩)
set_option maxRecDepth 100000 in
theorem m_X7_brother_7 {S : Scr} {A : Abs} (b : Nat) (hb : b < aN A) (σ : Sto) (h : RC A σ) : Mt S yX7_brother cX7_brother 3 (some .int) 3 [.ref 0, .int (nI b), .int 7] σ (PC A σ (mindA A b)) := by
  refine mt_of (ls := [.ref 0, .int (nI b), .int 7]) (by decide) rfl (Nat.le_of_ble_eq_true rfl) (by simp [Value.category]) ?_
  have hb6 : b < 6 := Nat.lt_of_lt_of_le hb h.n6
  refine ev_aload_n_0 (pc := 0) dX7_brother_0 ?_
  refine ev_getR (pc := 1) (r := 5) dX7_brother_1 fl_X7_19 (by decide) (by decide) (by decide) (by decide) ?_
  refine ev_iload_n_1 (pc := 4) dX7_brother_4 ?_
  refine ev_callV1 (pc := 5) dX7_brother_5 ml_X7_85 (m_X0_has _ σ) (by decide) ⟨_, rfl, rfl⟩ rfl (by decide) rfl (Nat.le_of_ble_eq_true rfl) ?_
  rw [has_t h hb]
  refine ev_if_eq (pc := 8) (tgt := 21) dX7_brother_8 (by decide) (fun h8 => by exact absurd h8 (by decide)) (fun h8 => ?_)
  refine ev_iload_n_2 (pc := 11) dX7_brother_11 ?_
  refine ev_if_lt (pc := 12) (tgt := 21) dX7_brother_12 (by decide) (fun h12 => by exact absurd h12 (by decide)) (fun h12 => ?_)
  refine ev_iload_n_2 (pc := 15) dX7_brother_15 ?_
  refine ev_bipush (pc := 16) (v := 8) dX7_brother_16 (by decide) ?_
  refine ev_icmp_le (pc := 18) (tgt := 23) dX7_brother_18 (by decide) (fun h18 => ?_) (fun h18 => by exact absurd h18 (by decide))
  refine ev_iload_n_2 (pc := 23) dX7_brother_23 ?_
  refine ev_iconst (pc := 24) (v := 4) dX7_brother_24 (by decide) ?_
  refine ev_icmp_ge (pc := 25) (tgt := 43) dX7_brother_25 (by decide) (fun h25 => ?_) (fun h25 => by exact absurd h25 (by decide))
  refine ev_iload_n_2 (pc := 43) dX7_brother_43 ?_
  refine ev_tableIn (pc := 44) (off := 68) (tgt := 112) dX7_brother_44 (by decide) (by decide) (by decide) (by decide) ?_
  refine ev_aload_n_0 (pc := 112) dX7_brother_112 ?_
  refine ev_getR (pc := 113) (r := 5) dX7_brother_113 fl_X7_19 (by decide) (by decide) (by decide) (by decide) ?_
  refine ev_iload_n_1 (pc := 116) dX7_brother_116 ?_
  refine ev_aload_n_0 (pc := 117) dX7_brother_117 ?_
  refine ev_getR (pc := 118) (r := 39) dX7_brother_118 fl_X7_26 (by decide) (by decide) (by decide) (by decide) ?_
  refine ev_callV1 (pc := 121) dX7_brother_121 ml_X7_107 (m_X0_mindOf isSc_39 b hb6 σ) (by decide) ⟨_, rfl, rfl⟩ rfl (by decide) rfl (Nat.le_of_ble_eq_true rfl) ?_
  exact ev_ireturn (pc := 124) dX7_brother_124 rfl rfl (⟨by rw [h.mind hb], h, FrC.rf σ⟩)
set_option maxRecDepth 100000 in
theorem m_X7_brother_8 {S : Scr} {A : Abs} (b : Nat) (hb : b < aN A) (σ : Sto) (h : RC A σ) : Mt S yX7_brother cX7_brother 3 (some .int) 3 [.ref 0, .int (nI b), .int 8] σ (PC A σ ((aC A).2.2 b)) := by
  refine mt_of (ls := [.ref 0, .int (nI b), .int 8]) (by decide) rfl (Nat.le_of_ble_eq_true rfl) (by simp [Value.category]) ?_
  have hb6 : b < 6 := Nat.lt_of_lt_of_le hb h.n6
  refine ev_aload_n_0 (pc := 0) dX7_brother_0 ?_
  refine ev_getR (pc := 1) (r := 5) dX7_brother_1 fl_X7_19 (by decide) (by decide) (by decide) (by decide) ?_
  refine ev_iload_n_1 (pc := 4) dX7_brother_4 ?_
  refine ev_callV1 (pc := 5) dX7_brother_5 ml_X7_85 (m_X0_has _ σ) (by decide) ⟨_, rfl, rfl⟩ rfl (by decide) rfl (Nat.le_of_ble_eq_true rfl) ?_
  rw [has_t h hb]
  refine ev_if_eq (pc := 8) (tgt := 21) dX7_brother_8 (by decide) (fun h8 => by exact absurd h8 (by decide)) (fun h8 => ?_)
  refine ev_iload_n_2 (pc := 11) dX7_brother_11 ?_
  refine ev_if_lt (pc := 12) (tgt := 21) dX7_brother_12 (by decide) (fun h12 => by exact absurd h12 (by decide)) (fun h12 => ?_)
  refine ev_iload_n_2 (pc := 15) dX7_brother_15 ?_
  refine ev_bipush (pc := 16) (v := 8) dX7_brother_16 (by decide) ?_
  refine ev_icmp_le (pc := 18) (tgt := 23) dX7_brother_18 (by decide) (fun h18 => ?_) (fun h18 => by exact absurd h18 (by decide))
  refine ev_iload_n_2 (pc := 23) dX7_brother_23 ?_
  refine ev_iconst (pc := 24) (v := 4) dX7_brother_24 (by decide) ?_
  refine ev_icmp_ge (pc := 25) (tgt := 43) dX7_brother_25 (by decide) (fun h25 => ?_) (fun h25 => by exact absurd h25 (by decide))
  refine ev_iload_n_2 (pc := 43) dX7_brother_43 ?_
  refine ev_tableOut (pc := 44) (tgt := 125) dX7_brother_44 (by decide) (by decide) ?_
  refine ev_aload_n_0 (pc := 125) dX7_brother_125 ?_
  refine ev_getR (pc := 126) (r := 39) dX7_brother_126 fl_X7_26 (by decide) (by decide) (by decide) (by decide) ?_
  refine ev_getR (pc := 129) (r := 42) dX7_brother_129 fl_X7_110 (by decide) (by decide) (by decide) (by decide) ?_
  refine ev_iload_n_1 (pc := 132) dX7_brother_132 ?_
  refine ev_iaload' (pc := 133) (j := b) dX7_brother_133 (by decide) (by decide) (show vp_in _ 6 from (vp_in_nI (by omega) (by decide))) (nI_clamp (by omega)) ?_
  exact ev_ireturn (pc := 134) dX7_brother_134 rfl rfl (⟨by rw [h.shownE hb], h, FrC.rf σ⟩)
set_option maxRecDepth 100000 in
theorem m_X7_brother0 {S : Scr} {A : Abs} (b w : Int32) (hb : ¬ (okB A b ∧ ¬ w < 0 ∧ w ≤ 8)) (σ : Sto) (h : RC A σ) : Mt S yX7_brother cX7_brother 3 (some .int) 1 [.ref 0, .int b, .int w] σ (Is (some (.int (-1))) σ) := by
  refine mt_of (ls := [.ref 0, .int b, .int w]) (by decide) rfl (Nat.le_of_ble_eq_true rfl) (by simp [Value.category]) ?_
  refine ev_aload_n_0 (pc := 0) dX7_brother_0 ?_
  refine ev_getR (pc := 1) (r := 5) dX7_brother_1 fl_X7_19 (by decide) (by decide) (by decide) (by decide) ?_
  refine ev_iload_n_1 (pc := 4) dX7_brother_4 ?_
  refine ev_callV1 (pc := 5) dX7_brother_5 ml_X7_85 (m_X0_has _ σ) (by decide) ⟨_, rfl, rfl⟩ rfl (by decide) rfl (Nat.le_of_ble_eq_true rfl) ?_
  refine ev_if_eq (pc := 8) (tgt := 21) dX7_brother_8 (by decide) (fun h8 => ?_) (fun h8 => ?_)
  · skip
    refine ev_iconst (pc := 21) (v := (-1)) dX7_brother_21 (by decide) ?_
    exact ev_ireturn (pc := 22) dX7_brother_22 rfl rfl (⟨rfl, rfl⟩)
  · skip
    refine ev_iload_n_2 (pc := 11) dX7_brother_11 ?_
    refine ev_if_lt (pc := 12) (tgt := 21) dX7_brother_12 (by decide) (fun h12 => ?_) (fun h12 => ?_)
    · skip
      refine ev_iconst (pc := 21) (v := (-1)) dX7_brother_21 (by decide) ?_
      exact ev_ireturn (pc := 22) dX7_brother_22 rfl rfl (⟨rfl, rfl⟩)
    · skip
      refine ev_iload_n_2 (pc := 15) dX7_brother_15 ?_
      refine ev_bipush (pc := 16) (v := 8) dX7_brother_16 (by decide) ?_
      refine ev_icmp_le (pc := 18) (tgt := 23) dX7_brother_18 (by decide) (fun h18 => ?_) (fun h18 => ?_)
      · skip
        exact absurd ⟨(by rw [h.m] at h8; exact Decidable.not_not.mp (fun z => h8 (bI0.mpr z))), h12, h18⟩ hb
      · skip
        refine ev_iconst (pc := 21) (v := (-1)) dX7_brother_21 (by decide) ?_
        exact ev_ireturn (pc := 22) dX7_brother_22 rfl rfl (⟨rfl, rfl⟩)
set_option maxRecDepth 100000 in
theorem m_X7_off {S : Scr} {A : Abs} (b : Nat) (hb : b < aN A) (p : Nat) (hp : p < 4) (σ : Sto) (h : RC A σ) : Mt S yX7_off cX7_off 3 (some .int) 1 [.ref 0, .int (nI b), .int (nI p)] σ (PC A σ (offD (aL A b) (aC A).1 ((aC A).2.1 b) p)) := by
  refine mt_of (ls := [.ref 0, .int (nI b), .int (nI p)]) (by decide) rfl (Nat.le_of_ble_eq_true rfl) (by simp [Value.category]) ?_
  have hb6 : b < 6 := Nat.lt_of_lt_of_le hb h.n6
  refine ev_aload_n_0 (pc := 0) dX7_off_0 ?_
  refine ev_getR (pc := 1) (r := 5) dX7_off_1 fl_X7_19 (by decide) (by decide) (by decide) (by decide) ?_
  refine ev_iload_n_1 (pc := 4) dX7_off_4 ?_
  refine ev_callV1 (pc := 5) dX7_off_5 ml_X7_85 (m_X0_has _ σ) (by decide) ⟨_, rfl, rfl⟩ rfl (by decide) rfl (Nat.le_of_ble_eq_true rfl) ?_
  rw [has_t h hb]
  refine ev_if_eq (pc := 8) (tgt := 18) dX7_off_8 (by decide) (fun h8 => by exact absurd h8 (by decide)) (fun h8 => ?_)
  refine ev_iload_n_2 (pc := 11) dX7_off_11 ?_
  refine ev_callS1 (pc := 12) dX7_off_12 ml_X7_77 (m_X7_isPart _ σ) rfl (by decide) rfl (Nat.le_of_ble_eq_true rfl) ?_
  rw [part_t hp]
  refine ev_if_ne (pc := 15) (tgt := 21) dX7_off_15 (by decide) (fun h15 => ?_) (fun h15 => by exact absurd h15 (by decide))
  refine ev_aload_n_0 (pc := 21) dX7_off_21 ?_
  refine ev_getR (pc := 22) (r := 5) dX7_off_22 fl_X7_19 (by decide) (by decide) (by decide) (by decide) ?_
  refine ev_getR (pc := 25) (r := 6) dX7_off_25 fl_X7_88 (by decide) (by decide) (by decide) (by decide) ?_
  refine ev_iload_n_1 (pc := 28) dX7_off_28 ?_
  refine ev_aaload' (pc := 29) (r := (25 + 2 * b)) (j := b) dX7_off_29 (by decide) (c := 14) (by decide) (by decide) (by decide) (show vp_in _ 6 from (vp_in_nI (by omega) (by decide))) (nI_clamp (by omega)) (rf6 b) ?_
  refine ev_iload_n_2 (pc := 30) dX7_off_30 ?_
  refine ev_aload_n_0 (pc := 31) dX7_off_31 ?_
  refine ev_getR (pc := 32) (r := 39) dX7_off_32 fl_X7_26 (by decide) (by decide) (by decide) (by decide) ?_
  refine ev_getR (pc := 35) (r := 40) dX7_off_35 fl_X7_81 (by decide) (by decide) (by decide) (by decide) ?_
  refine ev_iload_n_2 (pc := 38) dX7_off_38 ?_
  refine ev_iaload' (pc := 39) (j := p) dX7_off_39 (by decide) (by decide) (show vp_in _ 4 from (vp_in_nI (by omega) (by decide))) (nI_clamp (by omega)) ?_
  refine ev_aload_n_0 (pc := 40) dX7_off_40 ?_
  refine ev_getR (pc := 41) (r := 39) dX7_off_41 fl_X7_26 (by decide) (by decide) (by decide) (by decide) ?_
  refine ev_getR (pc := 44) (r := 41) dX7_off_44 fl_X7_100 (by decide) (by decide) (by decide) (by decide) ?_
  refine ev_iload_n_1 (pc := 47) dX7_off_47 ?_
  refine ev_iaload' (pc := 48) (j := b) dX7_off_48 (by decide) (by decide) (show vp_in _ 6 from (vp_in_nI (by omega) (by decide))) (nI_clamp (by omega)) ?_
  refine ev_callV1 (pc := 49) dX7_off_49 ml_X7_114 (m_X5_offBy (isTa_of hb6) p hp _ _ σ) (isTa_of hb6).lt ⟨_, by rw [(isTa_of hb6).kd0]; rfl, rfl⟩ rfl (by decide) rfl (Nat.le_of_ble_eq_true rfl) ?_
  exact ev_ireturn (pc := 52) dX7_off_52 rfl rfl (⟨by rw [h.potE hp, h.coldE hb6, (h.2.1.2 b hb).1 p hp]; rfl, h, FrC.rf σ⟩)
set_option maxRecDepth 100000 in
theorem m_X7_off0 {S : Scr} {A : Abs} (b p : Int32) (hb : ¬ (okB A b ∧ okP p)) (σ : Sto) (h : RC A σ) : Mt S yX7_off cX7_off 3 (some .int) 1 [.ref 0, .int b, .int p] σ (Is (some (.int (-1000000))) σ) := by
  refine mt_of (ls := [.ref 0, .int b, .int p]) (by decide) rfl (Nat.le_of_ble_eq_true rfl) (by simp [Value.category]) ?_
  refine ev_aload_n_0 (pc := 0) dX7_off_0 ?_
  refine ev_getR (pc := 1) (r := 5) dX7_off_1 fl_X7_19 (by decide) (by decide) (by decide) (by decide) ?_
  refine ev_iload_n_1 (pc := 4) dX7_off_4 ?_
  refine ev_callV1 (pc := 5) dX7_off_5 ml_X7_85 (m_X0_has _ σ) (by decide) ⟨_, rfl, rfl⟩ rfl (by decide) rfl (Nat.le_of_ble_eq_true rfl) ?_
  refine ev_if_eq (pc := 8) (tgt := 18) dX7_off_8 (by decide) (fun h8 => ?_) (fun h8 => ?_)
  · skip
    refine ev_ldc (pc := 18) dX7_off_18 k_X7_113 ?_
    exact ev_ireturn (pc := 20) dX7_off_20 rfl rfl (⟨rfl, rfl⟩)
  · skip
    refine ev_iload_n_2 (pc := 11) dX7_off_11 ?_
    refine ev_callS1 (pc := 12) dX7_off_12 ml_X7_77 (m_X7_isPart _ σ) rfl (by decide) rfl (Nat.le_of_ble_eq_true rfl) ?_
    refine ev_if_ne (pc := 15) (tgt := 21) dX7_off_15 (by decide) (fun h15 => ?_) (fun h15 => ?_)
    · skip
      exact absurd ⟨(by rw [h.m] at h8; exact Decidable.not_not.mp (fun z => h8 (bI0.mpr z))), Decidable.not_not.mp (fun z => h15 (bI0.mpr z))⟩ hb
    · skip
      refine ev_ldc (pc := 18) dX7_off_18 k_X7_113 ?_
      exact ev_ireturn (pc := 20) dX7_off_20 rfl rfl (⟨rfl, rfl⟩)
def nowA (A : Abs) (w : Int32) : Int32 := if w = 0 then calmA' A else if w = 1 then cldD (aC A).2.1 else if w = 2 then totA (aC A) else if w = 3 then mindAll A else if w = 4 then nI (aP A).length else -1
set_option maxRecDepth 100000 in
theorem m_X7_now {S : Scr} {A : Abs} (w : Int32) (σ : Sto) (h : RC A σ) : Mt S yX7_now cX7_now 2 (some .int) 4 [.ref 0, .int w] σ (PC A σ (nowA A w)) := by
  refine mt_of (ls := [.ref 0, .int w]) (by decide) rfl (Nat.le_of_ble_eq_true rfl) (by simp [Value.category]) ?_
  obtain ⟨nx, -, -, hk⟩ := h.past0
  refine ev_iload_n_1 (pc := 0) dX7_now_0 ?_
  by_cases hs1_0 : w = 0
  · refine ev_tableIn (off := 35) (tgt := 36) dX7_now_1 (by rw [hs1_0]; decide) (by rw [hs1_0]; decide) (by rw [hs1_0]; decide) (by decide) ?_
    refine ev_aload_n_0 (pc := 36) dX7_now_36 ?_
    refine ev_getR (pc := 37) (r := 5) dX7_now_37 fl_X7_19 (by decide) (by decide) (by decide) (by decide) ?_
    refine ev_aload_n_0 (pc := 40) dX7_now_40 ?_
    refine ev_getR (pc := 41) (r := 39) dX7_now_41 fl_X7_26 (by decide) (by decide) (by decide) (by decide) ?_
    refine ev_callV1 (pc := 44) dX7_now_44 ml_X7_118 (m_X0_calmSet isSc_39 _ h.n6 σ h.m) (by decide) ⟨_, rfl, rfl⟩ rfl (by decide) rfl (Nat.le_of_ble_eq_true rfl) ?_
    exact ev_ireturn (pc := 47) dX7_now_47 rfl rfl (⟨by show some (Value.int (calmB σ 39 (aN A))) = _; rw [h.calm]; simp only [nowA, hs1_0]; rfl, h, FrC.rf σ⟩)
  by_cases hs1_1 : w = 1
  · refine ev_tableIn (off := 47) (tgt := 48) dX7_now_1 (by rw [hs1_1]; decide) (by rw [hs1_1]; decide) (by rw [hs1_1]; decide) (by decide) ?_
    refine ev_aload_n_0 (pc := 48) dX7_now_48 ?_
    refine ev_getR (pc := 49) (r := 39) dX7_now_49 fl_X7_26 (by decide) (by decide) (by decide) (by decide) ?_
    refine ev_callV1 (pc := 52) dX7_now_52 ml_X7_122 (m_X3_coldSet σ) (by decide) ⟨_, rfl, rfl⟩ rfl (by decide) rfl (Nat.le_of_ble_eq_true rfl) ?_
    exact ev_ireturn (pc := 55) dX7_now_55 rfl rfl (⟨by rw [h.cold]; simp only [nowA, hs1_1]; rfl, h, FrC.rf σ⟩)
  by_cases hs1_2 : w = 2
  · refine ev_tableIn (off := 55) (tgt := 56) dX7_now_1 (by rw [hs1_2]; decide) (by rw [hs1_2]; decide) (by rw [hs1_2]; decide) (by decide) ?_
    refine ev_aload_n_0 (pc := 56) dX7_now_56 ?_
    refine ev_getR (pc := 57) (r := 39) dX7_now_57 fl_X7_26 (by decide) (by decide) (by decide) (by decide) ?_
    refine ev_getR (pc := 60) (r := 40) dX7_now_60 fl_X7_81 (by decide) (by decide) (by decide) (by decide) ?_
    refine ev_callS1 (pc := 63) dX7_now_63 ml_X7_125 (m_X7_total isA_40 σ) rfl (by decide) rfl (Nat.le_of_ble_eq_true rfl) ?_
    exact ev_ireturn (pc := 66) dX7_now_66 rfl rfl (⟨by rw [h.tot]; simp only [nowA, hs1_2]; rfl, h, FrC.rf σ⟩)
  by_cases hs1_3 : w = 3
  · refine ev_tableIn (off := 66) (tgt := 67) dX7_now_1 (by rw [hs1_3]; decide) (by rw [hs1_3]; decide) (by rw [hs1_3]; decide) (by decide) ?_
    refine ev_aload_n_0 (pc := 67) dX7_now_67 ?_
    refine ev_getR (pc := 68) (r := 5) dX7_now_68 fl_X7_19 (by decide) (by decide) (by decide) (by decide) ?_
    refine ev_aload_n_0 (pc := 71) dX7_now_71 ?_
    refine ev_getR (pc := 72) (r := 39) dX7_now_72 fl_X7_26 (by decide) (by decide) (by decide) (by decide) ?_
    refine ev_callV1 (pc := 75) dX7_now_75 ml_X7_129 (m_X0_mindOfAll isSc_39 _ h.n6 σ h.m) (by decide) ⟨_, rfl, rfl⟩ rfl (by decide) rfl (Nat.le_of_ble_eq_true rfl) ?_
    exact ev_ireturn (pc := 78) dX7_now_78 rfl rfl (⟨by rw [h.mindAll]; simp only [nowA, hs1_3]; rfl, h, FrC.rf σ⟩)
  by_cases hs1_4 : w = 4
  · refine ev_tableIn (off := 78) (tgt := 79) dX7_now_1 (by rw [hs1_4]; decide) (by rw [hs1_4]; decide) (by rw [hs1_4]; decide) (by decide) ?_
    refine ev_aload_n_0 (pc := 79) dX7_now_79 ?_
    refine ev_getR (pc := 80) (r := 9) dX7_now_80 fl_X7_33 (by decide) (by decide) (by decide) (by decide) ?_
    refine ev_getI (pc := 83) dX7_now_83 fl_X7_132 (by decide) (by decide) (by decide) ?_
    exact ev_ireturn (pc := 86) dX7_now_86 rfl rfl (⟨by rw [hk]; simp only [nowA, hs1_4]; rfl, h, FrC.rf σ⟩)
  refine ev_tableOut (pc := 1) (tgt := 87) dX7_now_1 (by have a0 := lv_neT hs1_0 (show ((0 : Int32)).toInt = 0 from rfl); have a1 := lv_neT hs1_1 (show ((1 : Int32)).toInt = 1 from rfl); have a2 := lv_neT hs1_2 (show ((2 : Int32)).toInt = 2 from rfl); have a3 := lv_neT hs1_3 (show ((3 : Int32)).toInt = 3 from rfl); have a4 := lv_neT hs1_4 (show ((4 : Int32)).toInt = 4 from rfl); omega) (by decide) ?_
  refine ev_iconst (pc := 87) (v := (-1)) dX7_now_87 (by decide) ?_
  exact ev_ireturn (pc := 88) dX7_now_88 rfl rfl (⟨by simp only [nowA, hs1_0, hs1_1, hs1_2, hs1_3, hs1_4, if_false], h, FrC.rf σ⟩)
def cntA (A : Abs) (w : Int32) : Int32 := if w = 0 then nI (aN A) else if w = 1 then nI (aS A).length else if w = 2 then nI (aT A).1 else -1
set_option maxRecDepth 100000 in
theorem m_X7_count {S : Scr} {A : Abs} (w : Int32) (σ : Sto) (h : RC A σ) : Mt S yX7_count cX7_count 2 (some .int) 0 [.ref 0, .int w] σ (PC A σ (cntA A w)) := by
  refine mt_of (ls := [.ref 0, .int w]) (by decide) rfl (Nat.le_of_ble_eq_true rfl) (by simp [Value.category]) ?_
  refine ev_iload_n_1 (pc := 0) dX7_count_0 ?_
  by_cases hs1_0 : w = 0
  · refine ev_tableIn (off := 27) (tgt := 28) dX7_count_1 (by rw [hs1_0]; decide) (by rw [hs1_0]; decide) (by rw [hs1_0]; decide) (by decide) ?_
    refine ev_aload_n_0 (pc := 28) dX7_count_28 ?_
    refine ev_getR (pc := 29) (r := 5) dX7_count_29 fl_X7_19 (by decide) (by decide) (by decide) (by decide) ?_
    refine ev_getI (pc := 32) dX7_count_32 fl_X7_234 (by decide) (by decide) (by decide) ?_
    exact ev_ireturn (pc := 35) dX7_count_35 rfl rfl (⟨by rw [h.m]; simp only [cntA, hs1_0]; rfl, h, FrC.rf σ⟩)
  by_cases hs1_1 : w = 1
  · refine ev_tableIn (off := 35) (tgt := 36) dX7_count_1 (by rw [hs1_1]; decide) (by rw [hs1_1]; decide) (by rw [hs1_1]; decide) (by decide) ?_
    refine ev_aload_n_0 (pc := 36) dX7_count_36 ?_
    refine ev_getR (pc := 37) (r := 13) dX7_count_37 fl_X7_48 (by decide) (by decide) (by decide) (by decide) ?_
    refine ev_getI (pc := 40) dX7_count_40 fl_X7_184 (by decide) (by decide) (by decide) ?_
    exact ev_ireturn (pc := 43) dX7_count_43 rfl rfl (⟨by rw [h.2.2.2.2.2.1.1]; simp only [cntA, hs1_1]; rfl, h, FrC.rf σ⟩)
  by_cases hs1_2 : w = 2
  · refine ev_tableIn (off := 43) (tgt := 44) dX7_count_1 (by rw [hs1_2]; decide) (by rw [hs1_2]; decide) (by rw [hs1_2]; decide) (by decide) ?_
    refine ev_aload_n_0 (pc := 44) dX7_count_44 ?_
    refine ev_getR (pc := 45) (r := 1) dX7_count_45 fl_X7_10 (by decide) (by decide) (by decide) (by decide) ?_
    refine ev_getI (pc := 48) dX7_count_48 fl_X7_59 (by decide) (by decide) (by decide) ?_
    exact ev_ireturn (pc := 51) dX7_count_51 rfl rfl (⟨by rw [h.2.2.2.2.2.2.1.1]; simp only [cntA, hs1_2]; rfl, h, FrC.rf σ⟩)
  refine ev_tableOut (pc := 1) (tgt := 52) dX7_count_1 (by have a0 := lv_neT hs1_0 (show ((0 : Int32)).toInt = 0 from rfl); have a1 := lv_neT hs1_1 (show ((1 : Int32)).toInt = 1 from rfl); have a2 := lv_neT hs1_2 (show ((2 : Int32)).toInt = 2 from rfl); omega) (by decide) ?_
  refine ev_iconst (pc := 52) (v := (-1)) dX7_count_52 (by decide) ?_
  exact ev_ireturn (pc := 53) dX7_count_53 rfl rfl (⟨by simp only [cntA, hs1_0, hs1_1, hs1_2, if_false], h, FrC.rf σ⟩)
set_option maxRecDepth 100000 in
theorem m_X7_trace {S : Scr} {A : Abs} (σ : Sto) (h : RC A σ) : Mt S yX7_trace cX7_trace 1 (some .long) 0 [.ref 0] σ (fun r τ => r = some (.long (aR A)) ∧ RC A τ ∧ FrC σ τ) := by
  refine mt_of (ls := [.ref 0]) (by decide) rfl (Nat.le_of_ble_eq_true rfl) (by simp [Value.category]) ?_
  refine ev_aload_n_0 (pc := 0) dX7_trace_0 ?_
  refine ev_getL (pc := 1) dX7_trace_1 fl_X7_237 (by decide) (by decide) (by decide) ?_
  exact ev_lreturn (pc := 4) dX7_trace_4 rfl (⟨by rw [h.2.2.2.2.2.2.2.1], h, FrC.rf σ⟩)
