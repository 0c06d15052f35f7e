/-! ===== the reference: middle, parted ===== -/
set_option maxRecDepth 100000 in
theorem b_X8_mindOf {S : Scr} {A : Abs} (s : Int32) (p : Nat) (hp : p < 4) (m : Int32) (b : Nat) (hb : b < aN A) (a : Int32) (σ : Sto) {Q : Option Value → Sto → Prop} (h : RM A σ) (K : Ev S RX8 cX8_mindOf 6 (some .int) 1 6 [.ref 117, .int s, .int (nI p), .int m, .int (if bit s b then a + ab (tst p m ((aC A).2.1 b) - aL A b p) else a), .int (nI (b + 1))] [] σ (Q)) : Ev S RX8 cX8_mindOf 6 (some .int) 1 6 [.ref 117, .int s, .int (nI p), .int m, .int a, .int (nI b)] [] σ (Q) := by
  have hb6 : b < 6 := Nat.lt_of_lt_of_le hb h.n6
  refine ev_iload_5 (pc := 6) dX8_mindOf_6 ?_
  refine ev_aload_n_0 (pc := 8) dX8_mindOf_8 ?_
  refine ev_getI (pc := 9) dX8_mindOf_9 fl_X8_50 (by decide) (by decide) (by decide) ?_
  refine ev_icmp_ge (pc := 12) (tgt := 70) dX8_mindOf_12 (by decide) (fun h12 => by exact absurd h12 (by rw [h.m]; exact nI_ge hb (by have := h.n6; omega))) (fun h12 => ?_)
  refine ev_iload_4 (pc := 15) dX8_mindOf_15 ?_
  refine ev_iload_n_1 (pc := 17) dX8_mindOf_17 ?_
  refine ev_iload_5 (pc := 18) dX8_mindOf_18 ?_
  refine ev_callS1 (pc := 20) dX8_mindOf_20 ml_X8_133 (m_X8_has _ b σ) rfl (by decide) rfl (Nat.le_of_ble_eq_true rfl) ?_
  refine ev_if_eq (pc := 23) (tgt := 60) dX8_mindOf_23 (by decide) (fun h23 => ?_) (fun h23 => ?_)
  · skip
    refine ev_iconst (pc := 60) (v := 0) dX8_mindOf_60 (by decide) ?_
    refine ev_iadd (pc := 61) dX8_mindOf_61 ?_
    refine ev_istore_4 (pc := 62) dX8_mindOf_62 (by decide) ?_
    refine ev_iinc_5 (pc := 64) (v := nI (b + 1)) dX8_mindOf_64 (nI_inc b) (by decide) ?_
    refine ev_goto (pc := 67) (tgt := 6) dX8_mindOf_67 (by decide) ?_
    exact ev_eq (by rw [if_neg (bI0.mp h23), Int32.add_zero]) rfl rfl K
  · skip
    refine ev_iload_n_3 (pc := 26) dX8_mindOf_26 ?_
    refine ev_iload_n_2 (pc := 27) dX8_mindOf_27 ?_
    refine ev_aload_n_0 (pc := 28) dX8_mindOf_28 ?_
    refine ev_getR (pc := 29) (r := 120) dX8_mindOf_29 fl_X8_16 (by decide) (by decide) (by decide) (by decide) ?_
    refine ev_iconst (pc := 32) (v := 4) dX8_mindOf_32 (by decide) ?_
    refine ev_iaload' (pc := 33) (j := 4) dX8_mindOf_33 (by decide) (by decide) (show vp_in _ 11 from (vin_c (by decide))) (by decide) ?_
    rw [h.coldE]
    refine ev_iload_5 (pc := 34) dX8_mindOf_34 ?_
    refine ev_callS1 (pc := 36) dX8_mindOf_36 ml_X8_133 (m_X8_has _ b σ) rfl (by decide) rfl (Nat.le_of_ble_eq_true rfl) ?_
    rw [cld_has h.c01 hb6]
    refine ev_callS1 (pc := 39) dX8_mindOf_39 ml_X8_123 (m_X8_tasted m p hp _ (h.c01 b hb6) σ) rfl (by decide) rfl (Nat.le_of_ble_eq_true rfl) ?_
    refine ev_aload_n_0 (pc := 42) dX8_mindOf_42 ?_
    refine ev_getR (pc := 43) (r := 118) dX8_mindOf_43 fl_X8_7 (by decide) (by decide) (by decide) (by decide) ?_
    refine ev_iconst (pc := 46) (v := 4) dX8_mindOf_46 (by decide) ?_
    refine ev_iload_5 (pc := 47) dX8_mindOf_47 ?_
    refine ev_imulc (pc := 49) (v := nI (4 * b)) dX8_mindOf_49 (nI_mul 4 b) ?_
    refine ev_iload_n_2 (pc := 50) dX8_mindOf_50 ?_
    refine ev_iaddc (pc := 51) (v := nI ((4 * b) + p)) dX8_mindOf_51 (nI_add (4 * b) p) ?_
    refine ev_iaload' (pc := 52) (j := ((4 * b) + p)) dX8_mindOf_52 (by decide) (by decide) (show vp_in _ 24 from (vp_in_nI (by omega) (by decide))) (nI_clamp (by omega)) ?_
    rw [(h.2.1.2 b hb).1 p hp]
    refine ev_isub (pc := 53) dX8_mindOf_53 ?_
    refine ev_callS1 (pc := 54) dX8_mindOf_54 ml_X8_130 (m_X8_far _ σ) rfl (by decide) rfl (Nat.le_of_ble_eq_true rfl) ?_
    rw [fr_ab]
    refine ev_goto (pc := 57) (tgt := 61) dX8_mindOf_57 (by decide) ?_
    refine ev_iadd (pc := 61) dX8_mindOf_61 ?_
    refine ev_istore_4 (pc := 62) dX8_mindOf_62 (by decide) ?_
    refine ev_iinc_5 (pc := 64) (v := nI (b + 1)) dX8_mindOf_64 (nI_inc b) (by decide) ?_
    refine ev_goto (pc := 67) (tgt := 6) dX8_mindOf_67 (by decide) ?_
    exact ev_eq (by rw [if_pos (Decidable.not_not.mp (fun z => h23 (bI0.mpr z)))]) rfl rfl K
theorem m_X8_mindOf {S : Scr} {A : Abs} (s : Int32) (p : Nat) (hp : p < 4) (m : Int32) (σ : Sto) (h : RM A σ) : Mt S yX8_mindOf cX8_mindOf 6 (some .int) 1 [.ref 117, .int s, .int (nI p), .int m] σ (Is (some (.int (mpA A s p m))) σ) := by
  refine mt_of (ls := [.ref 117, .int s, .int (nI p), .int m, .null, .null]) (by decide) rfl (Nat.le_of_ble_eq_true rfl) (by simp [Value.category]) ?_
  refine ev_iconst (pc := 0) (v := 0) dX8_mindOf_0 (by decide) ?_
  refine ev_istore_4 (pc := 1) dX8_mindOf_1 (by decide) ?_
  refine ev_iconst (pc := 3) (v := 0) dX8_mindOf_3 (by decide) ?_
  refine ev_istore_5 (pc := 4) dX8_mindOf_4 (by decide) ?_
  refine for_up (aN A) (fun b a => Ev S RX8 cX8_mindOf 6 (some .int) 1 6 [.ref 117, .int s, .int (nI p), .int m, .int a, .int (nI b)] [] σ (Is (some (.int (mpA A s p m))) σ)) (fun b a => if bit s b then a + ab (tst p m ((aC A).2.1 b) - aL A b p) else a) (fun b a hb K => b_X8_mindOf s p hp m b hb a σ h K) 0 ?_
  refine ev_iload_5 (pc := 6) dX8_mindOf_6 ?_
  refine ev_aload_n_0 (pc := 8) dX8_mindOf_8 ?_
  refine ev_getI (pc := 9) dX8_mindOf_9 fl_X8_50 (by decide) (by decide) (by decide) ?_
  refine ev_icmp_ge (pc := 12) (tgt := 70) dX8_mindOf_12 (by decide) (fun h12 => ?_) (fun h12 => by exact absurd (by rw [h.m]; exact Int32.le_refl _) h12)
  refine ev_iload_4 (pc := 70) dX8_mindOf_70 ?_
  exact ev_ireturn (pc := 72) dX8_mindOf_72 rfl rfl (⟨rfl, rfl⟩)
abbrev moS (A : Abs) (s : Int32) (p i : Nat) (m : Int32) : Int32 := if mpA A s p m ≤ mpA A s p (nI i) then m else nI i
theorem mo_ba {A : Abs} {s : Int32} {p i : Nat} {a : Int32 × Int32} (h : a.2 = mpA A s p a.1) : (baSA A s p i a).1 = moS A s p i a.1 ∧ (baSA A s p i a).2 = mpA A s p (baSA A s p i a).1 := by
  unfold baSA moS
  rw [h]
  by_cases z : mpA A s p a.1 ≤ mpA A s p (nI i)
  · rw [if_pos z, if_pos z]; exact ⟨rfl, h⟩
  · rw [if_neg z, if_neg z]; exact ⟨rfl, rfl⟩
theorem mo_eq (A : Abs) (s : Int32) (p : Nat) : moS A s p 5 (moS A s p 4 (moS A s p 3 (moS A s p 2 (moS A s p 1 0)))) = baA A s p := by
  have h1 := mo_ba (A := A) (s := s) (p := p) (i := 1) (a := (0, mpA A s p 0)) rfl
  have h2 := mo_ba (i := 2) h1.2
  have h3 := mo_ba (i := 3) h2.2
  have h4 := mo_ba (i := 4) h3.2
  have h5 := mo_ba (i := 5) h4.2
  unfold baA
  rw [h5.1, h4.1, h3.1, h2.1, h1.1]
set_option maxRecDepth 100000 in
theorem b_X8_middleOf {S : Scr} {A : Abs} (s : Int32) (p : Nat) (hp : p < 4) (i : Nat) (hi : i ≤ 5) (m : Int32) (σ : Sto) {Q : Option Value → Sto → Prop} (h : RM A σ) (K : Ev S RX8 cX8_middleOf 5 (some .int) 2 5 [.ref 117, .int s, .int (nI p), .int (moS A s p i m), .int (nI (i + 1))] [] σ (Q)) : Ev S RX8 cX8_middleOf 5 (some .int) 2 5 [.ref 117, .int s, .int (nI p), .int m, .int (nI i)] [] σ (Q) := by
  refine ev_iload_4 (pc := 5) dX8_middleOf_5 ?_
  refine ev_iconst (pc := 7) (v := 5) dX8_middleOf_7 (by decide) ?_
  refine ev_icmp_gt (pc := 8) (tgt := 42) dX8_middleOf_8 (by decide) (fun h8 => by exact absurd h8 (Int32.not_lt.mpr (nI_le (a := i) (b := 5) hi (by decide)))) (fun h8 => ?_)
  refine ev_aload_n_0 (pc := 11) dX8_middleOf_11 ?_
  refine ev_iload_n_1 (pc := 12) dX8_middleOf_12 ?_
  refine ev_iload_n_2 (pc := 13) dX8_middleOf_13 ?_
  refine ev_iload_4 (pc := 14) dX8_middleOf_14 ?_
  refine ev_callV1 (pc := 16) dX8_middleOf_16 ml_X8_186 (m_X8_mindOf s p hp _ σ h) (by decide) ⟨_, rfl, rfl⟩ rfl (by decide) rfl (Nat.le_of_ble_eq_true rfl) ?_
  refine ev_aload_n_0 (pc := 19) dX8_middleOf_19 ?_
  refine ev_iload_n_1 (pc := 20) dX8_middleOf_20 ?_
  refine ev_iload_n_2 (pc := 21) dX8_middleOf_21 ?_
  refine ev_iload_n_3 (pc := 22) dX8_middleOf_22 ?_
  refine ev_callV1 (pc := 23) dX8_middleOf_23 ml_X8_186 (m_X8_mindOf s p hp _ σ h) (by decide) ⟨_, rfl, rfl⟩ rfl (by decide) rfl (Nat.le_of_ble_eq_true rfl) ?_
  refine ev_icmp_ge (pc := 26) (tgt := 34) dX8_middleOf_26 (by decide) (fun h26 => ?_) (fun h26 => ?_)
  · skip
    refine ev_iload_n_3 (pc := 34) dX8_middleOf_34 ?_
    refine ev_istore_n_3 (pc := 35) dX8_middleOf_35 (by decide) ?_
    refine ev_iinc_4 (pc := 36) (v := nI (i + 1)) dX8_middleOf_36 (nI_inc i) (by decide) ?_
    refine ev_goto (pc := 39) (tgt := 5) dX8_middleOf_39 (by decide) ?_
    exact ev_eq (by rw [moS, if_pos h26]) rfl rfl K
  · skip
    refine ev_iload_4 (pc := 29) dX8_middleOf_29 ?_
    refine ev_goto (pc := 31) (tgt := 35) dX8_middleOf_31 (by decide) ?_
    refine ev_istore_n_3 (pc := 35) dX8_middleOf_35 (by decide) ?_
    refine ev_iinc_4 (pc := 36) (v := nI (i + 1)) dX8_middleOf_36 (nI_inc i) (by decide) ?_
    refine ev_goto (pc := 39) (tgt := 5) dX8_middleOf_39 (by decide) ?_
    exact ev_eq (by rw [moS, if_neg h26]) rfl rfl K
theorem m_X8_middleOf {S : Scr} {A : Abs} (s : Int32) (p : Nat) (hp : p < 4) (σ : Sto) (h : RM A σ) : Mt S yX8_middleOf cX8_middleOf 5 (some .int) 2 [.ref 117, .int s, .int (nI p)] σ (Is (some (.int (baA A s p))) σ) := by
  refine mt_of (ls := [.ref 117, .int s, .int (nI p), .null, .null]) (by decide) rfl (Nat.le_of_ble_eq_true rfl) (by simp [Value.category]) ?_
  rw [← mo_eq]
  refine ev_iconst (pc := 0) (v := 0) dX8_middleOf_0 (by decide) ?_
  refine ev_istore_n_3 (pc := 1) dX8_middleOf_1 (by decide) ?_
  refine ev_iconst (pc := 2) (v := 1) dX8_middleOf_2 (by decide) ?_
  refine ev_istore_4 (pc := 3) dX8_middleOf_3 (by decide) ?_
  refine b_X8_middleOf s p hp 1 (by decide) _ σ h ?_
  refine b_X8_middleOf s p hp 2 (by decide) _ σ h ?_
  refine b_X8_middleOf s p hp 3 (by decide) _ σ h ?_
  refine b_X8_middleOf s p hp 4 (by decide) _ σ h ?_
  refine b_X8_middleOf s p hp 5 (by decide) _ σ h ?_
  refine ev_iload_4 (pc := 5) dX8_middleOf_5 ?_
  refine ev_iconst (pc := 7) (v := 5) dX8_middleOf_7 (by decide) ?_
  refine ev_icmp_gt (pc := 8) (tgt := 42) dX8_middleOf_8 (by decide) (fun h8 => ?_) (fun h8 => by exact absurd h8 (by decide))
  refine ev_iload_n_3 (pc := 42) dX8_middleOf_42 ?_
  exact ev_ireturn (pc := 43) dX8_middleOf_43 rfl rfl (⟨rfl, rfl⟩)
set_option maxRecDepth 100000 in
theorem m_X8_leastOf {S : Scr} {A : Abs} (s : Int32) (σ : Sto) (h : RM A σ) : Mt S yX8_leastOf cX8_leastOf 4 (some .int) 3 [.ref 117, .int s] σ (Is (some (.int (lmA A s))) σ) := by
  refine mt_of (ls := [.ref 117, .int s, .null, .null]) (by decide) rfl (Nat.le_of_ble_eq_true rfl) (by simp [Value.category]) ?_
  refine ev_iconst (pc := 0) (v := 0) dX8_leastOf_0 (by decide) ?_
  refine ev_istore_n_2 (pc := 1) dX8_leastOf_1 (by decide) ?_
  refine ev_iconst (pc := 2) (v := 0) dX8_leastOf_2 (by decide) ?_
  refine ev_istore_n_3 (pc := 3) dX8_leastOf_3 (by decide) ?_
  refine ev_iload_n_3 (pc := 4) dX8_leastOf_4 ?_
  refine ev_iconst (pc := 5) (v := 4) dX8_leastOf_5 (by decide) ?_
  refine ev_icmp_ge (pc := 6) (tgt := 30) dX8_leastOf_6 (by decide) (fun h6 => by exact absurd h6 (by decide)) (fun h6 => ?_)
  refine ev_iload_n_2 (pc := 9) dX8_leastOf_9 ?_
  refine ev_aload_n_0 (pc := 10) dX8_leastOf_10 ?_
  refine ev_iload_n_1 (pc := 11) dX8_leastOf_11 ?_
  refine ev_iload_n_3 (pc := 12) dX8_leastOf_12 ?_
  refine ev_aload_n_0 (pc := 13) dX8_leastOf_13 ?_
  refine ev_iload_n_1 (pc := 14) dX8_leastOf_14 ?_
  refine ev_iload_n_3 (pc := 15) dX8_leastOf_15 ?_
  refine ev_callV1 (pc := 16) dX8_leastOf_16 ml_X8_190 (m_X8_middleOf s 0 (by decide) σ h) (by decide) ⟨_, rfl, rfl⟩ rfl (by decide) rfl (Nat.le_of_ble_eq_true rfl) ?_
  refine ev_callV1 (pc := 19) dX8_leastOf_19 ml_X8_186 (m_X8_mindOf s 0 (by decide) _ σ h) (by decide) ⟨_, rfl, rfl⟩ rfl (by decide) rfl (Nat.le_of_ble_eq_true rfl) ?_
  refine ev_iadd (pc := 22) dX8_leastOf_22 ?_
  refine ev_istore_n_2 (pc := 23) dX8_leastOf_23 (by decide) ?_
  refine ev_iinc_3 (pc := 24) (v := 1) dX8_leastOf_24 (by decide) (by decide) ?_
  refine ev_goto (pc := 27) (tgt := 4) dX8_leastOf_27 (by decide) ?_
  refine ev_iload_n_3 (pc := 4) dX8_leastOf_4 ?_
  refine ev_iconst (pc := 5) (v := 4) dX8_leastOf_5 (by decide) ?_
  refine ev_icmp_ge (pc := 6) (tgt := 30) dX8_leastOf_6 (by decide) (fun h6 => by exact absurd h6 (by decide)) (fun h6 => ?_)
  refine ev_iload_n_2 (pc := 9) dX8_leastOf_9 ?_
  refine ev_aload_n_0 (pc := 10) dX8_leastOf_10 ?_
  refine ev_iload_n_1 (pc := 11) dX8_leastOf_11 ?_
  refine ev_iload_n_3 (pc := 12) dX8_leastOf_12 ?_
  refine ev_aload_n_0 (pc := 13) dX8_leastOf_13 ?_
  refine ev_iload_n_1 (pc := 14) dX8_leastOf_14 ?_
  refine ev_iload_n_3 (pc := 15) dX8_leastOf_15 ?_
  refine ev_callV1 (pc := 16) dX8_leastOf_16 ml_X8_190 (m_X8_middleOf s 1 (by decide) σ h) (by decide) ⟨_, rfl, rfl⟩ rfl (by decide) rfl (Nat.le_of_ble_eq_true rfl) ?_
  refine ev_callV1 (pc := 19) dX8_leastOf_19 ml_X8_186 (m_X8_mindOf s 1 (by decide) _ σ h) (by decide) ⟨_, rfl, rfl⟩ rfl (by decide) rfl (Nat.le_of_ble_eq_true rfl) ?_
  refine ev_iadd (pc := 22) dX8_leastOf_22 ?_
  refine ev_istore_n_2 (pc := 23) dX8_leastOf_23 (by decide) ?_
  refine ev_iinc_3 (pc := 24) (v := 2) dX8_leastOf_24 (by decide) (by decide) ?_
  refine ev_goto (pc := 27) (tgt := 4) dX8_leastOf_27 (by decide) ?_
  refine ev_iload_n_3 (pc := 4) dX8_leastOf_4 ?_
  refine ev_iconst (pc := 5) (v := 4) dX8_leastOf_5 (by decide) ?_
  refine ev_icmp_ge (pc := 6) (tgt := 30) dX8_leastOf_6 (by decide) (fun h6 => by exact absurd h6 (by decide)) (fun h6 => ?_)
  refine ev_iload_n_2 (pc := 9) dX8_leastOf_9 ?_
  refine ev_aload_n_0 (pc := 10) dX8_leastOf_10 ?_
  refine ev_iload_n_1 (pc := 11) dX8_leastOf_11 ?_
  refine ev_iload_n_3 (pc := 12) dX8_leastOf_12 ?_
  refine ev_aload_n_0 (pc := 13) dX8_leastOf_13 ?_
  refine ev_iload_n_1 (pc := 14) dX8_leastOf_14 ?_
  refine ev_iload_n_3 (pc := 15) dX8_leastOf_15 ?_
  refine ev_callV1 (pc := 16) dX8_leastOf_16 ml_X8_190 (m_X8_middleOf s 2 (by decide) σ h) (by decide) ⟨_, rfl, rfl⟩ rfl (by decide) rfl (Nat.le_of_ble_eq_true rfl) ?_
  refine ev_callV1 (pc := 19) dX8_leastOf_19 ml_X8_186 (m_X8_mindOf s 2 (by decide) _ σ h) (by decide) ⟨_, rfl, rfl⟩ rfl (by decide) rfl (Nat.le_of_ble_eq_true rfl) ?_
  refine ev_iadd (pc := 22) dX8_leastOf_22 ?_
  refine ev_istore_n_2 (pc := 23) dX8_leastOf_23 (by decide) ?_
  refine ev_iinc_3 (pc := 24) (v := 3) dX8_leastOf_24 (by decide) (by decide) ?_
  refine ev_goto (pc := 27) (tgt := 4) dX8_leastOf_27 (by decide) ?_
  refine ev_iload_n_3 (pc := 4) dX8_leastOf_4 ?_
  refine ev_iconst (pc := 5) (v := 4) dX8_leastOf_5 (by decide) ?_
  refine ev_icmp_ge (pc := 6) (tgt := 30) dX8_leastOf_6 (by decide) (fun h6 => by exact absurd h6 (by decide)) (fun h6 => ?_)
  refine ev_iload_n_2 (pc := 9) dX8_leastOf_9 ?_
  refine ev_aload_n_0 (pc := 10) dX8_leastOf_10 ?_
  refine ev_iload_n_1 (pc := 11) dX8_leastOf_11 ?_
  refine ev_iload_n_3 (pc := 12) dX8_leastOf_12 ?_
  refine ev_aload_n_0 (pc := 13) dX8_leastOf_13 ?_
  refine ev_iload_n_1 (pc := 14) dX8_leastOf_14 ?_
  refine ev_iload_n_3 (pc := 15) dX8_leastOf_15 ?_
  refine ev_callV1 (pc := 16) dX8_leastOf_16 ml_X8_190 (m_X8_middleOf s 3 (by decide) σ h) (by decide) ⟨_, rfl, rfl⟩ rfl (by decide) rfl (Nat.le_of_ble_eq_true rfl) ?_
  refine ev_callV1 (pc := 19) dX8_leastOf_19 ml_X8_186 (m_X8_mindOf s 3 (by decide) _ σ h) (by decide) ⟨_, rfl, rfl⟩ rfl (by decide) rfl (Nat.le_of_ble_eq_true rfl) ?_
  refine ev_iadd (pc := 22) dX8_leastOf_22 ?_
  refine ev_istore_n_2 (pc := 23) dX8_leastOf_23 (by decide) ?_
  refine ev_iinc_3 (pc := 24) (v := 4) dX8_leastOf_24 (by decide) (by decide) ?_
  refine ev_goto (pc := 27) (tgt := 4) dX8_leastOf_27 (by decide) ?_
  refine ev_iload_n_3 (pc := 4) dX8_leastOf_4 ?_
  refine ev_iconst (pc := 5) (v := 4) dX8_leastOf_5 (by decide) ?_
  refine ev_icmp_ge (pc := 6) (tgt := 30) dX8_leastOf_6 (by decide) (fun h6 => ?_) (fun h6 => by exact absurd h6 (by decide))
  refine ev_iload_n_2 (pc := 30) dX8_leastOf_30 ?_
  exact ev_ireturn (pc := 31) dX8_leastOf_31 rfl rfl (⟨rfl, rfl⟩)
theorem all_n : ∀ n, n ≤ 6 → (1 : Int32) <<< (nI n &&& 31) - 1 = nI (2 ^ n - 1) := by decide +kernel
theorem pow_n : ∀ n, n ≤ 6 → 2 ^ n ≤ 64 ∧ 0 < 2 ^ n := by decide +kernel
theorem in04 {p : Nat} (h : p ≤ 4) : bI ((0 : Int32) ≤ nI p ∧ nI p ≤ 4) = 1 := (by decide +kernel : ∀ p, p ≤ 4 → bI ((0 : Int32) ≤ nI p ∧ nI p ≤ 4) = 1) p h
theorem ne4 : ∀ p, p < 4 → ¬ nI p = 4 := by decide +kernel
set_option maxRecDepth 100000 in
theorem m_X8_middle {S : Scr} {A : Abs} (p : Nat) (hp : p < 4) (σ : Sto) (h : RM A σ) : Mt S yX8_middle cX8_middle 3 (some .int) 4 [.ref 117, .int (nI p)] σ (PM A σ (baA A (allA A) p)) := by
  refine mt_of (ls := [.ref 117, .int (nI p), .null]) (by decide) rfl (Nat.le_of_ble_eq_true rfl) (by simp [Value.category]) ?_
  refine ev_iload_n_1 (pc := 0) dX8_middle_0 ?_
  refine ev_iconst (pc := 1) (v := 0) dX8_middle_1 (by decide) ?_
  refine ev_iconst (pc := 2) (v := 4) dX8_middle_2 (by decide) ?_
  refine ev_callS1 (pc := 3) dX8_middle_3 ml_X8_54 (m_X8_in _ _ _ σ) rfl (by decide) rfl (Nat.le_of_ble_eq_true rfl) ?_
  rw [in04 (p := p) (by omega)]
  refine ev_if_ne (pc := 6) (tgt := 11) dX8_middle_6 (by decide) (fun h6 => ?_) (fun h6 => by exact absurd h6 (by decide))
  refine ev_iconst (pc := 11) (v := 1) dX8_middle_11 (by decide) ?_
  refine ev_aload_n_0 (pc := 12) dX8_middle_12 ?_
  refine ev_getI (pc := 13) dX8_middle_13 fl_X8_50 (by decide) (by decide) (by decide) ?_
  rw [h.m]
  refine ev_ishl (pc := 16) dX8_middle_16 ?_
  refine ev_iconst (pc := 17) (v := 1) dX8_middle_17 (by decide) ?_
  refine ev_isub (pc := 18) dX8_middle_18 ?_
  rw [all_n _ h.n6]
  refine ev_istore_n_2 (pc := 19) dX8_middle_19 (by decide) ?_
  refine ev_iload_n_1 (pc := 20) dX8_middle_20 ?_
  refine ev_iconst (pc := 21) (v := 4) dX8_middle_21 (by decide) ?_
  refine ev_icmp_ne (pc := 22) (tgt := 33) dX8_middle_22 (by decide) (fun h22 => ?_) (fun h22 => by exact absurd h22 (ne4 p hp))
  refine ev_aload_n_0 (pc := 33) dX8_middle_33 ?_
  refine ev_iload_n_2 (pc := 34) dX8_middle_34 ?_
  refine ev_iload_n_1 (pc := 35) dX8_middle_35 ?_
  refine ev_callV1 (pc := 36) dX8_middle_36 ml_X8_190 (m_X8_middleOf _ p hp σ h) (by decide) ⟨_, rfl, rfl⟩ rfl (by decide) rfl (Nat.le_of_ble_eq_true rfl) ?_
  exact ev_ireturn (pc := 39) dX8_middle_39 rfl rfl (PM.id h rfl)
set_option maxRecDepth 100000 in
theorem m_X8_middle4 {S : Scr} {A : Abs} (σ : Sto) (h : RM A σ) : Mt S yX8_middle cX8_middle 3 (some .int) 4 [.ref 117, .int 4] σ (PM A σ (lmA A (allA A))) := by
  refine mt_of (ls := [.ref 117, .int 4, .null]) (by decide) rfl (Nat.le_of_ble_eq_true rfl) (by simp [Value.category]) ?_
  refine ev_iload_n_1 (pc := 0) dX8_middle_0 ?_
  refine ev_iconst (pc := 1) (v := 0) dX8_middle_1 (by decide) ?_
  refine ev_iconst (pc := 2) (v := 4) dX8_middle_2 (by decide) ?_
  refine ev_callS1 (pc := 3) dX8_middle_3 ml_X8_54 (m_X8_in _ _ _ σ) rfl (by decide) rfl (Nat.le_of_ble_eq_true rfl) ?_
  rw [show bI ((0 : Int32) ≤ 4 ∧ (4 : Int32) ≤ 4) = 1 from by decide]
  refine ev_if_ne (pc := 6) (tgt := 11) dX8_middle_6 (by decide) (fun h6 => ?_) (fun h6 => by exact absurd h6 (by decide))
  refine ev_iconst (pc := 11) (v := 1) dX8_middle_11 (by decide) ?_
  refine ev_aload_n_0 (pc := 12) dX8_middle_12 ?_
  refine ev_getI (pc := 13) dX8_middle_13 fl_X8_50 (by decide) (by decide) (by decide) ?_
  rw [h.m]
  refine ev_ishl (pc := 16) dX8_middle_16 ?_
  refine ev_iconst (pc := 17) (v := 1) dX8_middle_17 (by decide) ?_
  refine ev_isub (pc := 18) dX8_middle_18 ?_
  rw [all_n _ h.n6]
  refine ev_istore_n_2 (pc := 19) dX8_middle_19 (by decide) ?_
  refine ev_iload_n_1 (pc := 20) dX8_middle_20 ?_
  refine ev_iconst (pc := 21) (v := 4) dX8_middle_21 (by decide) ?_
  refine ev_icmp_ne (pc := 22) (tgt := 33) dX8_middle_22 (by decide) (fun h22 => by exact absurd h22 (by decide)) (fun h22 => ?_)
  refine ev_aload_n_0 (pc := 25) dX8_middle_25 ?_
  refine ev_iload_n_2 (pc := 26) dX8_middle_26 ?_
  refine ev_callV1 (pc := 27) dX8_middle_27 ml_X8_193 (m_X8_leastOf _ σ h) (by decide) ⟨_, rfl, rfl⟩ rfl (by decide) rfl (Nat.le_of_ble_eq_true rfl) ?_
  refine ev_goto (pc := 30) (tgt := 39) dX8_middle_30 (by decide) ?_
  exact ev_ireturn (pc := 39) dX8_middle_39 rfl rfl (PM.id h rfl)
set_option maxRecDepth 100000 in
theorem m_X8_middle0 {S : Scr} (p : Int32) (hp : ¬ (¬ p < 0 ∧ p ≤ 4)) (σ : Sto) : Mt S yX8_middle cX8_middle 3 (some .int) 4 [.ref 117, .int p] σ (Is (some (.int (-1))) σ) := by
  refine mt_of (ls := [.ref 117, .int p, .null]) (by decide) rfl (Nat.le_of_ble_eq_true rfl) (by simp [Value.category]) ?_
  refine ev_iload_n_1 (pc := 0) dX8_middle_0 ?_
  refine ev_iconst (pc := 1) (v := 0) dX8_middle_1 (by decide) ?_
  refine ev_iconst (pc := 2) (v := 4) dX8_middle_2 (by decide) ?_
  refine ev_callS1 (pc := 3) dX8_middle_3 ml_X8_54 (m_X8_in _ _ _ σ) rfl (by decide) rfl (Nat.le_of_ble_eq_true rfl) ?_
  rw [bI_f (fun z => hp ⟨Int32.not_lt.mpr z.1, z.2⟩)]
  refine ev_if_ne (pc := 6) (tgt := 11) dX8_middle_6 (by decide) (fun h6 => by exact absurd rfl h6) (fun h6 => ?_)
  refine ev_iconst (pc := 9) (v := (-1)) dX8_middle_9 (by decide) ?_
  exact ev_ireturn (pc := 10) dX8_middle_10 rfl rfl (⟨rfl, rfl⟩)
theorem bit0 : ∀ b, b < 6 → ¬ bit 0 b := by decide +kernel
theorem mp_0 {A : Abs} (hn : aN A ≤ 6) (p : Nat) (m : Int32) : mpA A 0 p m = 0 := by
  have : ∀ k, k ≤ 6 → itN (fun b (a : Int32) => if bit 0 b then a + ab (tst p m ((aC A).2.1 b) - aL A b p) else a) k 0 = 0 := by
    intro k
    induction k with
    | zero => intro _; rfl
    | succ k ih => intro hk; show (if bit 0 k then _ else itN _ k 0) = 0; rw [if_neg (bit0 k (by omega))]; exact ih (by omega)
  exact this _ hn
theorem lm_0 {A : Abs} (hn : aN A ≤ 6) : lmA A 0 = 0 := by unfold lmA; rw [mp_0 hn, mp_0 hn, mp_0 hn, mp_0 hn]; rfl
theorem pm_0 {A : Abs} (hn : aN A ≤ 6) : pmB (aN A) (lmFA A) 0 = lmA A (allA A) := by
  show lmA A 0 + lmA A (nI (2 ^ aN A - 1 - 0)) = _
  rw [lm_0 hn, Nat.sub_zero, Int32.zero_add]
theorem all_and : ∀ n, n ≤ 6 → ∀ i, i < 2 ^ n → nI (2 ^ n - 1) &&& (nI i ^^^ -1) = nI (2 ^ n - 1 - i) := by decide +kernel
set_option maxRecDepth 100000 in
theorem b_X8_parted {S : Scr} {A : Abs} (w : Int32) (i : Nat) (hi : i < 2 ^ aN A - 1) (a : Nat) (x : Value) (σ : Sto) {Q : Option Value → Sto → Prop} (h : RM A σ) (K : ∀ x, Ev S RX8 cX8_parted 7 (some .int) 4 32 [.ref 117, .int w, .int (allA A), .int (nI (bpS (aN A) (lmFA A) i a)), .int (pmB (aN A) (lmFA A) (bpS (aN A) (lmFA A) i a)), .int (nI (i + 1 + 1)), x] [] σ (Q)) : Ev S RX8 cX8_parted 7 (some .int) 4 32 [.ref 117, .int w, .int (allA A), .int (nI a), .int (pmB (aN A) (lmFA A) a), .int (nI (i + 1)), x] [] σ (Q) := by
  have hp := pow_n _ h.n6
  refine ev_iload_5 (pc := 32) dX8_parted_32 ?_
  refine ev_iload_n_2 (pc := 34) dX8_parted_34 ?_
  refine ev_icmp_gt (pc := 35) (tgt := 93) dX8_parted_35 (by decide) (fun h35 => by exact absurd h35 (Int32.not_lt.mpr (nI_le (a := i + 1) (b := 2 ^ aN A - 1) (by omega) (by omega)))) (fun h35 => ?_)
  refine ev_aload_n_0 (pc := 38) dX8_parted_38 ?_
  refine ev_iload_5 (pc := 39) dX8_parted_39 ?_
  refine ev_callV1 (pc := 41) dX8_parted_41 ml_X8_193 (m_X8_leastOf _ σ h) (by decide) ⟨_, rfl, rfl⟩ rfl (by decide) rfl (Nat.le_of_ble_eq_true rfl) ?_
  refine ev_aload_n_0 (pc := 44) dX8_parted_44 ?_
  refine ev_iload_n_2 (pc := 45) dX8_parted_45 ?_
  refine ev_iload_5 (pc := 46) dX8_parted_46 ?_
  refine ev_iconst (pc := 48) (v := (-1)) dX8_parted_48 (by decide) ?_
  refine ev_ixor (pc := 49) dX8_parted_49 ?_
  refine ev_iand (pc := 50) dX8_parted_50 ?_
  rw [show allA A &&& (nI (i + 1) ^^^ -1) = nI (2 ^ aN A - 1 - (i + 1)) from all_and _ h.n6 (i + 1) (by omega)]
  refine ev_callV1 (pc := 51) dX8_parted_51 ml_X8_193 (m_X8_leastOf _ σ h) (by decide) ⟨_, rfl, rfl⟩ rfl (by decide) rfl (Nat.le_of_ble_eq_true rfl) ?_
  refine ev_iadd (pc := 54) dX8_parted_54 ?_
  refine ev_istore_6 (pc := 55) dX8_parted_55 (by decide) ?_
  refine ev_iload_6 (pc := 57) dX8_parted_57 ?_
  refine ev_iload_4 (pc := 59) dX8_parted_59 ?_
  refine ev_icmp_ge (pc := 61) (tgt := 69) dX8_parted_61 (by decide) (fun h61 => ?_) (fun h61 => ?_)
  · skip
    refine ev_iload_n_3 (pc := 69) dX8_parted_69 ?_
    refine ev_istore_n_3 (pc := 70) dX8_parted_70 (by decide) ?_
    refine ev_iload_6 (pc := 71) dX8_parted_71 ?_
    refine ev_iload_4 (pc := 73) dX8_parted_73 ?_
    refine ev_icmp_ge (pc := 75) (tgt := 83) dX8_parted_75 (by decide) (fun h75 => ?_) (fun h75 => ?_)
    · skip
      refine ev_iload_4 (pc := 83) dX8_parted_83 ?_
      refine ev_istore_4 (pc := 85) dX8_parted_85 (by decide) ?_
      refine ev_iinc_5 (pc := 87) (v := nI ((i + 1) + 1)) dX8_parted_87 (nI_inc (i + 1)) (by decide) ?_
      refine ev_goto (pc := 90) (tgt := 32) dX8_parted_90 (by decide) ?_
      exact ev_eq (by rw [show bpS (aN A) (lmFA A) i a = a from if_pos h61]) rfl rfl (K _)
    · skip
      refine ev_iload_6 (pc := 78) dX8_parted_78 ?_
      refine ev_goto (pc := 80) (tgt := 85) dX8_parted_80 (by decide) ?_
      refine ev_istore_4 (pc := 85) dX8_parted_85 (by decide) ?_
      refine ev_iinc_5 (pc := 87) (v := nI ((i + 1) + 1)) dX8_parted_87 (nI_inc (i + 1)) (by decide) ?_
      refine ev_goto (pc := 90) (tgt := 32) dX8_parted_90 (by decide) ?_
      exact absurd h61 h75
  · skip
    refine ev_iload_5 (pc := 64) dX8_parted_64 ?_
    refine ev_goto (pc := 66) (tgt := 70) dX8_parted_66 (by decide) ?_
    refine ev_istore_n_3 (pc := 70) dX8_parted_70 (by decide) ?_
    refine ev_iload_6 (pc := 71) dX8_parted_71 ?_
    refine ev_iload_4 (pc := 73) dX8_parted_73 ?_
    refine ev_icmp_ge (pc := 75) (tgt := 83) dX8_parted_75 (by decide) (fun h75 => ?_) (fun h75 => ?_)
    · skip
      refine ev_iload_4 (pc := 83) dX8_parted_83 ?_
      refine ev_istore_4 (pc := 85) dX8_parted_85 (by decide) ?_
      refine ev_iinc_5 (pc := 87) (v := nI ((i + 1) + 1)) dX8_parted_87 (nI_inc (i + 1)) (by decide) ?_
      refine ev_goto (pc := 90) (tgt := 32) dX8_parted_90 (by decide) ?_
      exact absurd h75 h61
    · skip
      refine ev_iload_6 (pc := 78) dX8_parted_78 ?_
      refine ev_goto (pc := 80) (tgt := 85) dX8_parted_80 (by decide) ?_
      refine ev_istore_4 (pc := 85) dX8_parted_85 (by decide) ?_
      refine ev_iinc_5 (pc := 87) (v := nI ((i + 1) + 1)) dX8_parted_87 (nI_inc (i + 1)) (by decide) ?_
      refine ev_goto (pc := 90) (tgt := 32) dX8_parted_90 (by decide) ?_
      exact ev_eq (by rw [show bpS (aN A) (lmFA A) i a = i + 1 from if_neg h61]) rfl rfl (K _)
theorem m_X8_parted {S : Scr} {A : Abs} (σ : Sto) (h : RM A σ) : Mt S yX8_parted cX8_parted 7 (some .int) 4 [.ref 117, .int 0] σ (PM A σ (nI (bpA A))) := by
  refine mt_of (ls := [.ref 117, .int 0, .null, .null, .null, .null, .null]) (by decide) rfl (Nat.le_of_ble_eq_true rfl) (by simp [Value.category]) ?_
  have hp := pow_n _ h.n6
  refine ev_iload_n_1 (pc := 0) dX8_parted_0 ?_
  refine ev_iconst (pc := 1) (v := 0) dX8_parted_1 (by decide) ?_
  refine ev_iconst (pc := 2) (v := 1) dX8_parted_2 (by decide) ?_
  refine ev_callS1 (pc := 3) dX8_parted_3 ml_X8_54 (m_X8_in _ _ _ σ) rfl (by decide) rfl (Nat.le_of_ble_eq_true rfl) ?_
  rw [show bI ((0 : Int32) ≤ 0 ∧ (0 : Int32) ≤ 1) = 1 from by decide]
  refine ev_if_ne (pc := 6) (tgt := 11) dX8_parted_6 (by decide) (fun h6 => ?_) (fun h6 => by exact absurd h6 (by decide))
  refine ev_iconst (pc := 11) (v := 1) dX8_parted_11 (by decide) ?_
  refine ev_aload_n_0 (pc := 12) dX8_parted_12 ?_
  refine ev_getI (pc := 13) dX8_parted_13 fl_X8_50 (by decide) (by decide) (by decide) ?_
  rw [h.m]
  refine ev_ishl (pc := 16) dX8_parted_16 ?_
  refine ev_iconst (pc := 17) (v := 1) dX8_parted_17 (by decide) ?_
  refine ev_isub (pc := 18) dX8_parted_18 ?_
  rw [all_n _ h.n6]
  refine ev_istore_n_2 (pc := 19) dX8_parted_19 (by decide) ?_
  refine ev_iconst (pc := 20) (v := 0) dX8_parted_20 (by decide) ?_
  refine ev_istore_n_3 (pc := 21) dX8_parted_21 (by decide) ?_
  refine ev_aload_n_0 (pc := 22) dX8_parted_22 ?_
  refine ev_iload_n_2 (pc := 23) dX8_parted_23 ?_
  refine ev_callV1 (pc := 24) dX8_parted_24 ml_X8_193 (m_X8_leastOf _ σ h) (by decide) ⟨_, rfl, rfl⟩ rfl (by decide) rfl (Nat.le_of_ble_eq_true rfl) ?_
  rw [← pm_0 h.n6]
  refine ev_istore_4 (pc := 27) dX8_parted_27 (by decide) ?_
  refine ev_iconst (pc := 29) (v := 1) dX8_parted_29 (by decide) ?_
  refine ev_istore_5 (pc := 30) dX8_parted_30 (by decide) ?_
  refine for_up (2 ^ aN A - 1) (fun i a => ∀ x, Ev S RX8 cX8_parted 7 (some .int) 4 32 [.ref 117, .int 0, .int (allA A), .int (nI a), .int (pmB (aN A) (lmFA A) a), .int (nI (i + 1)), x] [] σ (PM A σ (nI (bpA A)))) (bpS (aN A) (lmFA A)) (fun i a hi K x => b_X8_parted 0 i hi a x σ h K) 0 (fun x => ?_) _
  show Ev S RX8 cX8_parted 7 (some .int) 4 32 [.ref 117, .int 0, .int (allA A), .int (nI (bpA A)), .int (pmB (aN A) (lmFA A) (bpA A)), .int (nI (2 ^ aN A - 1 + 1)), x] [] σ (PM A σ (nI (bpA A)))
  refine ev_iload_5 (pc := 32) dX8_parted_32 ?_
  refine ev_iload_n_2 (pc := 34) dX8_parted_34 ?_
  refine ev_icmp_gt (pc := 35) (tgt := 93) dX8_parted_35 (by decide) (fun h35 => ?_) (fun h35 => by exact absurd (nI_lt (a := 2 ^ aN A - 1) (b := 2 ^ aN A - 1 + 1) (by omega) (by omega)) h35)
  refine ev_iload_n_1 (pc := 93) dX8_parted_93 ?_
  refine ev_if_ne (pc := 94) (tgt := 101) dX8_parted_94 (by decide) (fun h94 => by exact absurd h94 (by decide)) (fun h94 => ?_)
  refine ev_iload_n_3 (pc := 97) dX8_parted_97 ?_
  refine ev_goto (pc := 98) (tgt := 103) dX8_parted_98 (by decide) ?_
  exact ev_ireturn (pc := 103) dX8_parted_103 rfl rfl (PM.id h rfl)
theorem m_X8_parted1 {S : Scr} {A : Abs} (σ : Sto) (h : RM A σ) : Mt S yX8_parted cX8_parted 7 (some .int) 4 [.ref 117, .int 1] σ (PM A σ (pmB (aN A) (lmFA A) (bpA A))) := by
  refine mt_of (ls := [.ref 117, .int 1, .null, .null, .null, .null, .null]) (by decide) rfl (Nat.le_of_ble_eq_true rfl) (by simp [Value.category]) ?_
  have hp := pow_n _ h.n6
  refine ev_iload_n_1 (pc := 0) dX8_parted_0 ?_
  refine ev_iconst (pc := 1) (v := 0) dX8_parted_1 (by decide) ?_
  refine ev_iconst (pc := 2) (v := 1) dX8_parted_2 (by decide) ?_
  refine ev_callS1 (pc := 3) dX8_parted_3 ml_X8_54 (m_X8_in _ _ _ σ) rfl (by decide) rfl (Nat.le_of_ble_eq_true rfl) ?_
  rw [show bI ((0 : Int32) ≤ 1 ∧ (1 : Int32) ≤ 1) = 1 from by decide]
  refine ev_if_ne (pc := 6) (tgt := 11) dX8_parted_6 (by decide) (fun h6 => ?_) (fun h6 => by exact absurd h6 (by decide))
  refine ev_iconst (pc := 11) (v := 1) dX8_parted_11 (by decide) ?_
  refine ev_aload_n_0 (pc := 12) dX8_parted_12 ?_
  refine ev_getI (pc := 13) dX8_parted_13 fl_X8_50 (by decide) (by decide) (by decide) ?_
  rw [h.m]
  refine ev_ishl (pc := 16) dX8_parted_16 ?_
  refine ev_iconst (pc := 17) (v := 1) dX8_parted_17 (by decide) ?_
  refine ev_isub (pc := 18) dX8_parted_18 ?_
  rw [all_n _ h.n6]
  refine ev_istore_n_2 (pc := 19) dX8_parted_19 (by decide) ?_
  refine ev_iconst (pc := 20) (v := 0) dX8_parted_20 (by decide) ?_
  refine ev_istore_n_3 (pc := 21) dX8_parted_21 (by decide) ?_
  refine ev_aload_n_0 (pc := 22) dX8_parted_22 ?_
  refine ev_iload_n_2 (pc := 23) dX8_parted_23 ?_
  refine ev_callV1 (pc := 24) dX8_parted_24 ml_X8_193 (m_X8_leastOf _ σ h) (by decide) ⟨_, rfl, rfl⟩ rfl (by decide) rfl (Nat.le_of_ble_eq_true rfl) ?_
  rw [← pm_0 h.n6]
  refine ev_istore_4 (pc := 27) dX8_parted_27 (by decide) ?_
  refine ev_iconst (pc := 29) (v := 1) dX8_parted_29 (by decide) ?_
  refine ev_istore_5 (pc := 30) dX8_parted_30 (by decide) ?_
  refine for_up (2 ^ aN A - 1) (fun i a => ∀ x, Ev S RX8 cX8_parted 7 (some .int) 4 32 [.ref 117, .int 1, .int (allA A), .int (nI a), .int (pmB (aN A) (lmFA A) a), .int (nI (i + 1)), x] [] σ (PM A σ (pmB (aN A) (lmFA A) (bpA A)))) (bpS (aN A) (lmFA A)) (fun i a hi K x => b_X8_parted 1 i hi a x σ h K) 0 (fun x => ?_) _
  show Ev S RX8 cX8_parted 7 (some .int) 4 32 [.ref 117, .int 1, .int (allA A), .int (nI (bpA A)), .int (pmB (aN A) (lmFA A) (bpA A)), .int (nI (2 ^ aN A - 1 + 1)), x] [] σ (PM A σ (pmB (aN A) (lmFA A) (bpA A)))
  refine ev_iload_5 (pc := 32) dX8_parted_32 ?_
  refine ev_iload_n_2 (pc := 34) dX8_parted_34 ?_
  refine ev_icmp_gt (pc := 35) (tgt := 93) dX8_parted_35 (by decide) (fun h35 => ?_) (fun h35 => by exact absurd (nI_lt (a := 2 ^ aN A - 1) (b := 2 ^ aN A - 1 + 1) (by omega) (by omega)) h35)
  refine ev_iload_n_1 (pc := 93) dX8_parted_93 ?_
  refine ev_if_ne (pc := 94) (tgt := 101) dX8_parted_94 (by decide) (fun h94 => ?_) (fun h94 => by exact absurd h94 (by decide))
  refine ev_iload_4 (pc := 101) dX8_parted_101 ?_
  exact ev_ireturn (pc := 103) dX8_parted_103 rfl rfl (PM.id h rfl)
set_option maxRecDepth 100000 in
theorem m_X8_parted0 {S : Scr} (p : Int32) (hp : ¬ (¬ p < 0 ∧ p ≤ 1)) (σ : Sto) : Mt S yX8_parted cX8_parted 7 (some .int) 4 [.ref 117, .int p] σ (Is (some (.int (-1))) σ) := by
  refine mt_of (ls := [.ref 117, .int p, .null, .null, .null, .null, .null]) (by decide) rfl (Nat.le_of_ble_eq_true rfl) (by simp [Value.category]) ?_
  refine ev_iload_n_1 (pc := 0) dX8_parted_0 ?_
  refine ev_iconst (pc := 1) (v := 0) dX8_parted_1 (by decide) ?_
  refine ev_iconst (pc := 2) (v := 1) dX8_parted_2 (by decide) ?_
  refine ev_callS1 (pc := 3) dX8_parted_3 ml_X8_54 (m_X8_in _ _ _ σ) rfl (by decide) rfl (Nat.le_of_ble_eq_true rfl) ?_
  rw [bI_f (fun z => hp ⟨Int32.not_lt.mpr z.1, z.2⟩)]
  refine ev_if_ne (pc := 6) (tgt := 11) dX8_parted_6 (by decide) (fun h6 => by exact absurd rfl h6) (fun h6 => ?_)
  refine ev_iconst (pc := 9) (v := (-1)) dX8_parted_9 (by decide) ?_
  exact ev_ireturn (pc := 10) dX8_parted_10 rfl rfl (⟨rfl, rfl⟩)
