/-! ===== tasting: pure words ===== -/
def tst (p : Nat) (a c : Int32) : Int32 := if p = 3 ∧ c = 1 then a / 2 else a
def offD (l pot : Nat → Int32) (c : Int32) (p : Nat) : Int32 := tst p (pot p) c - l p
def mnS (l pot : Nat → Int32) (c : Int32) (i : Nat) (a : Int32 × Int32) : Int32 × Int32 :=
  if ab (offD l pot c i) ≤ a.1 then a else (ab (offD l pot c i), 2 * nI i + (if offD l pot c i ≤ 0 then 2 else 1))
def mienD (l : Nat → Int32) (bl : Int32) (pot : Nat → Int32) (c : Int32) : Int32 := (mnS l pot c 3 (mnS l pot c 2 (mnS l pot c 1 (mnS l pot c 0 (bl, 0))))).2
def mindD (l pot : Nat → Int32) (c : Int32) : Int32 := 0 + ab (offD l pot c 0) + ab (offD l pot c 1) + ab (offD l pot c 2) + ab (offD l pot c 3)
theorem nI_eq3 : ∀ p : Nat, p < 4 → (nI p = 3 ↔ p = 3) := by decide +kernel
set_option maxRecDepth 100000 in
theorem m_X5_offBy {S : Scr} {T : Nat} (hT : IsTa T) (p : Nat) (hp : p < 4) (a c : Int32) (σ : Sto) : Mt S yX5_offBy cX5_offBy 5 (some .int) 0 [.ref T, .int (nI p), .int a, .int c] σ (Is (some (.int (tst p a c - σ.1 (T + 1) p))) σ) := by
  refine mt_of (ls := [.ref T, .int (nI p), .int a, .int c, .null]) (by decide) rfl (Nat.le_of_ble_eq_true rfl) (by simp [Value.category]) ?_
  refine ev_iload_n_1 (pc := 0) dX5_offBy_0 ?_
  refine ev_iconst (pc := 1) (v := 3) dX5_offBy_1 (by decide) ?_
  refine ev_icmp_ne (pc := 2) (tgt := 16) dX5_offBy_2 (by decide) (fun h2 => ?_) (fun h2 => ?_)
  · skip
    refine ev_iload_n_2 (pc := 16) dX5_offBy_16 ?_
    refine ev_istore_4 (pc := 17) dX5_offBy_17 (by decide) ?_
    refine ev_iload_4 (pc := 19) dX5_offBy_19 ?_
    refine ev_aload_n_0 (pc := 21) dX5_offBy_21 ?_
    refine ev_getR (pc := 22) (r := (T + 1)) dX5_offBy_22 fl_X5_9 hT.lt hT.kd0 (by decide) (hT.rfj 0) ?_
    refine ev_iload_n_1 (pc := 25) dX5_offBy_25 ?_
    refine ev_iaload' (pc := 26) (j := p) dX5_offBy_26 hT.lt1 hT.kd1 (by rw [hT.ln1]; exact (vp_in_nI (by omega) (by decide))) (nI_clamp (by omega)) ?_
    refine ev_isub (pc := 27) dX5_offBy_27 ?_
    exact ev_ireturn (pc := 28) dX5_offBy_28 rfl rfl (⟨by simp only [nI_eq3 p hp] at h2; simp only [tst, h2, and_self, and_true, and_false, false_and, ↓reduceIte], rfl⟩)
  · skip
    refine ev_iload_n_3 (pc := 5) dX5_offBy_5 ?_
    refine ev_iconst (pc := 6) (v := 1) dX5_offBy_6 (by decide) ?_
    refine ev_icmp_ne (pc := 7) (tgt := 16) dX5_offBy_7 (by decide) (fun h7 => ?_) (fun h7 => ?_)
    · skip
      refine ev_iload_n_2 (pc := 16) dX5_offBy_16 ?_
      refine ev_istore_4 (pc := 17) dX5_offBy_17 (by decide) ?_
      refine ev_iload_4 (pc := 19) dX5_offBy_19 ?_
      refine ev_aload_n_0 (pc := 21) dX5_offBy_21 ?_
      refine ev_getR (pc := 22) (r := (T + 1)) dX5_offBy_22 fl_X5_9 hT.lt hT.kd0 (by decide) (hT.rfj 0) ?_
      refine ev_iload_n_1 (pc := 25) dX5_offBy_25 ?_
      refine ev_iaload' (pc := 26) (j := p) dX5_offBy_26 hT.lt1 hT.kd1 (by rw [hT.ln1]; exact (vp_in_nI (by omega) (by decide))) (nI_clamp (by omega)) ?_
      refine ev_isub (pc := 27) dX5_offBy_27 ?_
      exact ev_ireturn (pc := 28) dX5_offBy_28 rfl rfl (⟨by simp only [nI_eq3 p hp] at h2; simp only [tst, h2, h7, and_self, and_true, and_false, false_and, ↓reduceIte], rfl⟩)
    · skip
      refine ev_iload_n_2 (pc := 10) dX5_offBy_10 ?_
      refine ev_iconst (pc := 11) (v := 2) dX5_offBy_11 (by decide) ?_
      refine ev_idiv (pc := 12) dX5_offBy_12 (by decide) ?_
      refine ev_goto (pc := 13) (tgt := 17) dX5_offBy_13 (by decide) ?_
      refine ev_istore_4 (pc := 17) dX5_offBy_17 (by decide) ?_
      refine ev_iload_4 (pc := 19) dX5_offBy_19 ?_
      refine ev_aload_n_0 (pc := 21) dX5_offBy_21 ?_
      refine ev_getR (pc := 22) (r := (T + 1)) dX5_offBy_22 fl_X5_9 hT.lt hT.kd0 (by decide) (hT.rfj 0) ?_
      refine ev_iload_n_1 (pc := 25) dX5_offBy_25 ?_
      refine ev_iaload' (pc := 26) (j := p) dX5_offBy_26 hT.lt1 hT.kd1 (by rw [hT.ln1]; exact (vp_in_nI (by omega) (by decide))) (nI_clamp (by omega)) ?_
      refine ev_isub (pc := 27) dX5_offBy_27 ?_
      exact ev_ireturn (pc := 28) dX5_offBy_28 rfl rfl (⟨by simp only [nI_eq3 p hp] at h2; simp only [tst, h2, h7, and_self, and_true, and_false, false_and, ↓reduceIte], rfl⟩)
set_option maxRecDepth 100000 in
theorem b_X5_mien {S : Scr} {T P : Nat} (hT : IsTa T) (hP : IsA P 4) (c : Int32) (i : Nat) (hi : i < 4) (a : Int32 × Int32) (σ : Sto) {Q : Option Value → Sto → Prop} (K : Ev S RX5 cX5_mien 7 (some .int) 1 11 [.ref T, .ref P, .int c, .int (mnS (σ.1 (T + 1)) (σ.1 P) c i a).1, .int (mnS (σ.1 (T + 1)) (σ.1 P) c i a).2, .int (nI (i + 1)), .null] [] σ (Q)) : Ev S RX5 cX5_mien 7 (some .int) 1 11 [.ref T, .ref P, .int c, .int a.1, .int a.2, .int (nI i), .null] [] σ (Q) := by
  refine ev_iload_5 (pc := 11) dX5_mien_11 ?_
  refine ev_iconst (pc := 13) (v := 4) dX5_mien_13 (by decide) ?_
  refine ev_icmp_ge (pc := 14) (tgt := 68) dX5_mien_14 (by decide) (fun h14 => by exact absurd h14 (nI_ge hi (by decide))) (fun h14 => ?_)
  refine ev_aload_n_0 (pc := 17) dX5_mien_17 ?_
  refine ev_iload_5 (pc := 18) dX5_mien_18 ?_
  refine ev_aload_n_1 (pc := 20) dX5_mien_20 ?_
  refine ev_iload_5 (pc := 21) dX5_mien_21 ?_
  refine ev_iaload' (pc := 23) (j := i) dX5_mien_23 hP.1 hP.2.1 (by rw [hP.2.2]; exact (vp_in_nI (by omega) (by decide))) (nI_clamp (by omega)) ?_
  refine ev_iload_n_2 (pc := 24) dX5_mien_24 ?_
  refine ev_callV1 (pc := 25) dX5_mien_25 ml_X5_19 (m_X5_offBy hT i hi _ _ σ) hT.lt ⟨_, by rw [hT.kd0]; rfl, rfl⟩ rfl (by decide) rfl (Nat.le_of_ble_eq_true rfl) ?_
  refine ev_istore_6 (pc := 28) dX5_mien_28 (by decide) ?_
  refine ev_iload_6 (pc := 30) dX5_mien_30 ?_
  refine ev_mabs' (pc := 32) dX5_mien_32 ml_X5_23 (by decide) (Nat.le_of_ble_eq_true rfl) ?_
  refine ev_iload_n_3 (pc := 35) dX5_mien_35 ?_
  refine ev_icmp_le (pc := 36) (tgt := 62) dX5_mien_36 (by decide) (fun h36 => ?_) (fun h36 => ?_)
  · skip
    refine ev_iinc_5 (pc := 62) (v := nI (i + 1)) dX5_mien_62 (nI_inc i) (by decide) ?_
    refine ev_goto (pc := 65) (tgt := 11) dX5_mien_65 (by decide) ?_
    refine ev_null_6 ?_
    exact ev_eq (by simp only [mnS, offD, h36, ↓reduceIte]) rfl rfl K
  · skip
    refine ev_iload_6 (pc := 39) dX5_mien_39 ?_
    refine ev_mabs' (pc := 41) dX5_mien_41 ml_X5_23 (by decide) (Nat.le_of_ble_eq_true rfl) ?_
    refine ev_istore_n_3 (pc := 44) dX5_mien_44 (by decide) ?_
    refine ev_iconst (pc := 45) (v := 2) dX5_mien_45 (by decide) ?_
    refine ev_iload_5 (pc := 46) dX5_mien_46 ?_
    refine ev_imul (pc := 48) dX5_mien_48 ?_
    refine ev_iload_6 (pc := 49) dX5_mien_49 ?_
    refine ev_if_le (pc := 51) (tgt := 58) dX5_mien_51 (by decide) (fun h51 => ?_) (fun h51 => ?_)
    · skip
      refine ev_iconst (pc := 58) (v := 2) dX5_mien_58 (by decide) ?_
      refine ev_iadd (pc := 59) dX5_mien_59 ?_
      refine ev_istore_4 (pc := 60) dX5_mien_60 (by decide) ?_
      refine ev_iinc_5 (pc := 62) (v := nI (i + 1)) dX5_mien_62 (nI_inc i) (by decide) ?_
      refine ev_goto (pc := 65) (tgt := 11) dX5_mien_65 (by decide) ?_
      refine ev_null_6 ?_
      exact ev_eq (by simp only [mnS, offD, h36, h51, ↓reduceIte]) rfl rfl K
    · skip
      refine ev_iconst (pc := 54) (v := 1) dX5_mien_54 (by decide) ?_
      refine ev_goto (pc := 55) (tgt := 59) dX5_mien_55 (by decide) ?_
      refine ev_iadd (pc := 59) dX5_mien_59 ?_
      refine ev_istore_4 (pc := 60) dX5_mien_60 (by decide) ?_
      refine ev_iinc_5 (pc := 62) (v := nI (i + 1)) dX5_mien_62 (nI_inc i) (by decide) ?_
      refine ev_goto (pc := 65) (tgt := 11) dX5_mien_65 (by decide) ?_
      refine ev_null_6 ?_
      exact ev_eq (by simp only [mnS, offD, h36, h51, ↓reduceIte]) rfl rfl K
theorem m_X5_mien {S : Scr} {T P : Nat} (hT : IsTa T) (hP : IsA P 4) (c : Int32) (σ : Sto) : Mt S yX5_mien cX5_mien 7 (some .int) 1 [.ref T, .ref P, .int c] σ (Is (some (.int (mienD (σ.1 (T + 1)) (σ.1 T 1) (σ.1 P) c))) σ) := by
  refine mt_of (ls := [.ref T, .ref P, .int c, .null, .null, .null, .null]) (by decide) rfl (Nat.le_of_ble_eq_true rfl) (by simp [Value.category]) ?_
  refine ev_aload_n_0 (pc := 0) dX5_mien_0 ?_
  refine ev_getI (pc := 1) dX5_mien_1 fl_X5_15 hT.lt hT.kd0 (by decide) ?_
  refine ev_istore_n_3 (pc := 4) dX5_mien_4 (by decide) ?_
  refine ev_iconst (pc := 5) (v := 0) dX5_mien_5 (by decide) ?_
  refine ev_istore_4 (pc := 6) dX5_mien_6 (by decide) ?_
  refine ev_iconst (pc := 8) (v := 0) dX5_mien_8 (by decide) ?_
  refine ev_istore_5 (pc := 9) dX5_mien_9 (by decide) ?_
  refine b_X5_mien hT hP c 0 (by decide) (σ.1 T 1, 0) σ ?_
  refine b_X5_mien hT hP c 1 (by decide) _ σ ?_
  refine b_X5_mien hT hP c 2 (by decide) _ σ ?_
  refine b_X5_mien hT hP c 3 (by decide) _ σ ?_
  refine ev_iload_5 (pc := 11) dX5_mien_11 ?_
  refine ev_iconst (pc := 13) (v := 4) dX5_mien_13 (by decide) ?_
  refine ev_icmp_ge (pc := 14) (tgt := 68) dX5_mien_14 (by decide) (fun h14 => ?_) (fun h14 => by exact absurd (nI_le (Nat.le_refl 4) (by decide)) h14)
  refine ev_iload_4 (pc := 68) dX5_mien_68 ?_
  exact ev_ireturn (pc := 70) dX5_mien_70 rfl rfl (⟨rfl, rfl⟩)
set_option maxRecDepth 100000 in
theorem m_X5_mind {S : Scr} {T P : Nat} (hT : IsTa T) (hP : IsA P 4) (c : Int32) (σ : Sto) : Mt S yX5_mind cX5_mind 5 (some .int) 1 [.ref T, .ref P, .int c] σ (Is (some (.int (mindD (σ.1 (T + 1)) (σ.1 P) c))) σ) := by
  refine mt_of (ls := [.ref T, .ref P, .int c, .null, .null]) (by decide) rfl (Nat.le_of_ble_eq_true rfl) (by simp [Value.category]) ?_
  refine ev_iconst (pc := 0) (v := 0) dX5_mind_0 (by decide) ?_
  refine ev_istore_n_3 (pc := 1) dX5_mind_1 (by decide) ?_
  refine ev_iconst (pc := 2) (v := 0) dX5_mind_2 (by decide) ?_
  refine ev_istore_4 (pc := 3) dX5_mind_3 (by decide) ?_
  refine ev_iload_4 (pc := 5) dX5_mind_5 ?_
  refine ev_iconst (pc := 7) (v := 4) dX5_mind_7 (by decide) ?_
  refine ev_icmp_ge (pc := 8) (tgt := 34) dX5_mind_8 (by decide) (fun h8 => by exact absurd h8 (by decide)) (fun h8 => ?_)
  refine ev_iload_n_3 (pc := 11) dX5_mind_11 ?_
  refine ev_aload_n_0 (pc := 12) dX5_mind_12 ?_
  refine ev_iload_4 (pc := 13) dX5_mind_13 ?_
  refine ev_aload_n_1 (pc := 15) dX5_mind_15 ?_
  refine ev_iload_4 (pc := 16) dX5_mind_16 ?_
  refine ev_iaload' (pc := 18) (j := 0) dX5_mind_18 hP.1 hP.2.1 (by rw [hP.2.2]; exact (vin_c (by decide))) (by decide) ?_
  refine ev_iload_n_2 (pc := 19) dX5_mind_19 ?_
  refine ev_callV1 (pc := 20) dX5_mind_20 ml_X5_19 (m_X5_offBy hT 0 (by decide) _ _ σ) hT.lt ⟨_, by rw [hT.kd0]; rfl, rfl⟩ rfl (by decide) rfl (Nat.le_of_ble_eq_true rfl) ?_
  refine ev_mabs' (pc := 23) dX5_mind_23 ml_X5_23 (by decide) (Nat.le_of_ble_eq_true rfl) ?_
  refine ev_iadd (pc := 26) dX5_mind_26 ?_
  refine ev_istore_n_3 (pc := 27) dX5_mind_27 (by decide) ?_
  refine ev_iinc_4 (pc := 28) (v := 1) dX5_mind_28 (by decide) (by decide) ?_
  refine ev_goto (pc := 31) (tgt := 5) dX5_mind_31 (by decide) ?_
  refine ev_iload_4 (pc := 5) dX5_mind_5 ?_
  refine ev_iconst (pc := 7) (v := 4) dX5_mind_7 (by decide) ?_
  refine ev_icmp_ge (pc := 8) (tgt := 34) dX5_mind_8 (by decide) (fun h8 => by exact absurd h8 (by decide)) (fun h8 => ?_)
  refine ev_iload_n_3 (pc := 11) dX5_mind_11 ?_
  refine ev_aload_n_0 (pc := 12) dX5_mind_12 ?_
  refine ev_iload_4 (pc := 13) dX5_mind_13 ?_
  refine ev_aload_n_1 (pc := 15) dX5_mind_15 ?_
  refine ev_iload_4 (pc := 16) dX5_mind_16 ?_
  refine ev_iaload' (pc := 18) (j := 1) dX5_mind_18 hP.1 hP.2.1 (by rw [hP.2.2]; exact (vin_c (by decide))) (by decide) ?_
  refine ev_iload_n_2 (pc := 19) dX5_mind_19 ?_
  refine ev_callV1 (pc := 20) dX5_mind_20 ml_X5_19 (m_X5_offBy hT 1 (by decide) _ _ σ) hT.lt ⟨_, by rw [hT.kd0]; rfl, rfl⟩ rfl (by decide) rfl (Nat.le_of_ble_eq_true rfl) ?_
  refine ev_mabs' (pc := 23) dX5_mind_23 ml_X5_23 (by decide) (Nat.le_of_ble_eq_true rfl) ?_
  refine ev_iadd (pc := 26) dX5_mind_26 ?_
  refine ev_istore_n_3 (pc := 27) dX5_mind_27 (by decide) ?_
  refine ev_iinc_4 (pc := 28) (v := 2) dX5_mind_28 (by decide) (by decide) ?_
  refine ev_goto (pc := 31) (tgt := 5) dX5_mind_31 (by decide) ?_
  refine ev_iload_4 (pc := 5) dX5_mind_5 ?_
  refine ev_iconst (pc := 7) (v := 4) dX5_mind_7 (by decide) ?_
  refine ev_icmp_ge (pc := 8) (tgt := 34) dX5_mind_8 (by decide) (fun h8 => by exact absurd h8 (by decide)) (fun h8 => ?_)
  refine ev_iload_n_3 (pc := 11) dX5_mind_11 ?_
  refine ev_aload_n_0 (pc := 12) dX5_mind_12 ?_
  refine ev_iload_4 (pc := 13) dX5_mind_13 ?_
  refine ev_aload_n_1 (pc := 15) dX5_mind_15 ?_
  refine ev_iload_4 (pc := 16) dX5_mind_16 ?_
  refine ev_iaload' (pc := 18) (j := 2) dX5_mind_18 hP.1 hP.2.1 (by rw [hP.2.2]; exact (vin_c (by decide))) (by decide) ?_
  refine ev_iload_n_2 (pc := 19) dX5_mind_19 ?_
  refine ev_callV1 (pc := 20) dX5_mind_20 ml_X5_19 (m_X5_offBy hT 2 (by decide) _ _ σ) hT.lt ⟨_, by rw [hT.kd0]; rfl, rfl⟩ rfl (by decide) rfl (Nat.le_of_ble_eq_true rfl) ?_
  refine ev_mabs' (pc := 23) dX5_mind_23 ml_X5_23 (by decide) (Nat.le_of_ble_eq_true rfl) ?_
  refine ev_iadd (pc := 26) dX5_mind_26 ?_
  refine ev_istore_n_3 (pc := 27) dX5_mind_27 (by decide) ?_
  refine ev_iinc_4 (pc := 28) (v := 3) dX5_mind_28 (by decide) (by decide) ?_
  refine ev_goto (pc := 31) (tgt := 5) dX5_mind_31 (by decide) ?_
  refine ev_iload_4 (pc := 5) dX5_mind_5 ?_
  refine ev_iconst (pc := 7) (v := 4) dX5_mind_7 (by decide) ?_
  refine ev_icmp_ge (pc := 8) (tgt := 34) dX5_mind_8 (by decide) (fun h8 => by exact absurd h8 (by decide)) (fun h8 => ?_)
  refine ev_iload_n_3 (pc := 11) dX5_mind_11 ?_
  refine ev_aload_n_0 (pc := 12) dX5_mind_12 ?_
  refine ev_iload_4 (pc := 13) dX5_mind_13 ?_
  refine ev_aload_n_1 (pc := 15) dX5_mind_15 ?_
  refine ev_iload_4 (pc := 16) dX5_mind_16 ?_
  refine ev_iaload' (pc := 18) (j := 3) dX5_mind_18 hP.1 hP.2.1 (by rw [hP.2.2]; exact (vin_c (by decide))) (by decide) ?_
  refine ev_iload_n_2 (pc := 19) dX5_mind_19 ?_
  refine ev_callV1 (pc := 20) dX5_mind_20 ml_X5_19 (m_X5_offBy hT 3 (by decide) _ _ σ) hT.lt ⟨_, by rw [hT.kd0]; rfl, rfl⟩ rfl (by decide) rfl (Nat.le_of_ble_eq_true rfl) ?_
  refine ev_mabs' (pc := 23) dX5_mind_23 ml_X5_23 (by decide) (Nat.le_of_ble_eq_true rfl) ?_
  refine ev_iadd (pc := 26) dX5_mind_26 ?_
  refine ev_istore_n_3 (pc := 27) dX5_mind_27 (by decide) ?_
  refine ev_iinc_4 (pc := 28) (v := 4) dX5_mind_28 (by decide) (by decide) ?_
  refine ev_goto (pc := 31) (tgt := 5) dX5_mind_31 (by decide) ?_
  refine ev_iload_4 (pc := 5) dX5_mind_5 ?_
  refine ev_iconst (pc := 7) (v := 4) dX5_mind_7 (by decide) ?_
  refine ev_icmp_ge (pc := 8) (tgt := 34) dX5_mind_8 (by decide) (fun h8 => ?_) (fun h8 => by exact absurd h8 (by decide))
  refine ev_iload_n_3 (pc := 34) dX5_mind_34 ?_
  exact ev_ireturn (pc := 35) dX5_mind_35 rfl rfl (⟨rfl, rfl⟩)
/-! ===== the class's own helpers ===== -/
def isPt (p : Int32) : Prop := ¬ p < 0 ∧ p < 4
def isPtD (p : Int32) : Decidable (isPt p) := inferInstanceAs (Decidable (¬ p < 0 ∧ p < 4))
def bI (P : Prop) [Decidable P] : Int32 := if P then 1 else 0
set_option maxRecDepth 100000 in
theorem m_X7_isPart {S : Scr} (p : Int32) (σ : Sto) : Mt S yX7_isPart cX7_isPart 1 (some .boolean) 0 [.int p] σ (Is (some (.int (bI (¬ p < 0 ∧ p < 4)))) σ) := by
  refine mt_of (ls := [.int p]) (by decide) rfl (Nat.le_of_ble_eq_true rfl) (by simp [Value.category]) ?_
  refine ev_iload_n_0 (pc := 0) dX7_isPart_0 ?_
  refine ev_if_lt (pc := 1) (tgt := 13) dX7_isPart_1 (by decide) (fun h1 => ?_) (fun h1 => ?_)
  · skip
    refine ev_iconst (pc := 13) (v := 0) dX7_isPart_13 (by decide) ?_
    exact ev_ireturn (pc := 14) dX7_isPart_14 rfl rfl (⟨by simp [bI, h1], rfl⟩)
  · skip
    refine ev_iload_n_0 (pc := 4) dX7_isPart_4 ?_
    refine ev_iconst (pc := 5) (v := 4) dX7_isPart_5 (by decide) ?_
    refine ev_icmp_ge (pc := 6) (tgt := 13) dX7_isPart_6 (by decide) (fun h6 => ?_) (fun h6 => ?_)
    · skip
      refine ev_iconst (pc := 13) (v := 0) dX7_isPart_13 (by decide) ?_
      exact ev_ireturn (pc := 14) dX7_isPart_14 rfl rfl (⟨by simp [bI, h1, h6], rfl⟩)
    · skip
      refine ev_iconst (pc := 9) (v := 1) dX7_isPart_9 (by decide) ?_
      refine ev_goto (pc := 10) (tgt := 14) dX7_isPart_10 (by decide) ?_
      exact ev_ireturn (pc := 14) dX7_isPart_14 rfl rfl (⟨by simp [bI, h1, h6], rfl⟩)
set_option maxRecDepth 100000 in
theorem m_X7_isImage {S : Scr} (p : Int32) (σ : Sto) : Mt S yX7_isImage cX7_isImage 1 (some .boolean) 0 [.int p] σ (Is (some (.int (bI (¬ p < 0 ∧ p < 2)))) σ) := by
  refine mt_of (ls := [.int p]) (by decide) rfl (Nat.le_of_ble_eq_true rfl) (by simp [Value.category]) ?_
  refine ev_iload_n_0 (pc := 0) dX7_isImage_0 ?_
  refine ev_if_lt (pc := 1) (tgt := 13) dX7_isImage_1 (by decide) (fun h1 => ?_) (fun h1 => ?_)
  · skip
    refine ev_iconst (pc := 13) (v := 0) dX7_isImage_13 (by decide) ?_
    exact ev_ireturn (pc := 14) dX7_isImage_14 rfl rfl (⟨by simp [bI, h1], rfl⟩)
  · skip
    refine ev_iload_n_0 (pc := 4) dX7_isImage_4 ?_
    refine ev_iconst (pc := 5) (v := 2) dX7_isImage_5 (by decide) ?_
    refine ev_icmp_ge (pc := 6) (tgt := 13) dX7_isImage_6 (by decide) (fun h6 => ?_) (fun h6 => ?_)
    · skip
      refine ev_iconst (pc := 13) (v := 0) dX7_isImage_13 (by decide) ?_
      exact ev_ireturn (pc := 14) dX7_isImage_14 rfl rfl (⟨by simp [bI, h1, h6], rfl⟩)
    · skip
      refine ev_iconst (pc := 9) (v := 1) dX7_isImage_9 (by decide) ?_
      refine ev_goto (pc := 10) (tgt := 14) dX7_isImage_10 (by decide) ?_
      exact ev_ireturn (pc := 14) dX7_isImage_14 rfl rfl (⟨by simp [bI, h1, h6], rfl⟩)
set_option maxRecDepth 100000 in
theorem m_X7_total {S : Scr} {a : Nat} (ha : IsA a 4) (σ : Sto) : Mt S yX7_total cX7_total 6 (some .int) 0 [.ref a] σ (Is (some (.int (0 + σ.1 a 0 + σ.1 a 1 + σ.1 a 2 + σ.1 a 3))) σ) := by
  refine mt_of (ls := [.ref a, .null, .null, .null, .null, .null]) (by decide) rfl (Nat.le_of_ble_eq_true rfl) (by simp [Value.category]) ?_
  refine ev_iconst (pc := 0) (v := 0) dX7_total_0 (by decide) ?_
  refine ev_istore_n_1 (pc := 1) dX7_total_1 (by decide) ?_
  refine ev_aload_n_0 (pc := 2) dX7_total_2 ?_
  refine ev_astore_n_2 (pc := 3) dX7_total_3 (by decide) ?_
  refine ev_aload_n_2 (pc := 4) dX7_total_4 ?_
  refine ev_arraylength (pc := 5) (v := 4) dX7_total_5 ha.1 (c := 10) ha.2.1 (by decide) (by rw [ha.2.2]; decide) ?_
  refine ev_istore_n_3 (pc := 6) dX7_total_6 (by decide) ?_
  refine ev_iconst (pc := 7) (v := 0) dX7_total_7 (by decide) ?_
  refine ev_istore_4 (pc := 8) dX7_total_8 (by decide) ?_
  refine ev_iload_4 (pc := 10) dX7_total_10 ?_
  refine ev_iload_n_3 (pc := 12) dX7_total_12 ?_
  refine ev_icmp_ge (pc := 13) (tgt := 33) dX7_total_13 (by decide) (fun h13 => by exact absurd h13 (by decide)) (fun h13 => ?_)
  refine ev_aload_n_2 (pc := 16) dX7_total_16 ?_
  refine ev_iload_4 (pc := 17) dX7_total_17 ?_
  refine ev_iaload' (pc := 19) (j := 0) dX7_total_19 ha.1 ha.2.1 (by rw [ha.2.2]; exact (vin_c (by decide))) (by decide) ?_
  refine ev_istore_5 (pc := 20) dX7_total_20 (by decide) ?_
  refine ev_iload_n_1 (pc := 22) dX7_total_22 ?_
  refine ev_iload_5 (pc := 23) dX7_total_23 ?_
  refine ev_iadd (pc := 25) dX7_total_25 ?_
  refine ev_istore_n_1 (pc := 26) dX7_total_26 (by decide) ?_
  refine ev_iinc_4 (pc := 27) (v := 1) dX7_total_27 (by decide) (by decide) ?_
  refine ev_goto (pc := 30) (tgt := 10) dX7_total_30 (by decide) ?_
  refine ev_iload_4 (pc := 10) dX7_total_10 ?_
  refine ev_iload_n_3 (pc := 12) dX7_total_12 ?_
  refine ev_icmp_ge (pc := 13) (tgt := 33) dX7_total_13 (by decide) (fun h13 => by exact absurd h13 (by decide)) (fun h13 => ?_)
  refine ev_aload_n_2 (pc := 16) dX7_total_16 ?_
  refine ev_iload_4 (pc := 17) dX7_total_17 ?_
  refine ev_iaload' (pc := 19) (j := 1) dX7_total_19 ha.1 ha.2.1 (by rw [ha.2.2]; exact (vin_c (by decide))) (by decide) ?_
  refine ev_istore_5 (pc := 20) dX7_total_20 (by decide) ?_
  refine ev_iload_n_1 (pc := 22) dX7_total_22 ?_
  refine ev_iload_5 (pc := 23) dX7_total_23 ?_
  refine ev_iadd (pc := 25) dX7_total_25 ?_
  refine ev_istore_n_1 (pc := 26) dX7_total_26 (by decide) ?_
  refine ev_iinc_4 (pc := 27) (v := 2) dX7_total_27 (by decide) (by decide) ?_
  refine ev_goto (pc := 30) (tgt := 10) dX7_total_30 (by decide) ?_
  refine ev_iload_4 (pc := 10) dX7_total_10 ?_
  refine ev_iload_n_3 (pc := 12) dX7_total_12 ?_
  refine ev_icmp_ge (pc := 13) (tgt := 33) dX7_total_13 (by decide) (fun h13 => by exact absurd h13 (by decide)) (fun h13 => ?_)
  refine ev_aload_n_2 (pc := 16) dX7_total_16 ?_
  refine ev_iload_4 (pc := 17) dX7_total_17 ?_
  refine ev_iaload' (pc := 19) (j := 2) dX7_total_19 ha.1 ha.2.1 (by rw [ha.2.2]; exact (vin_c (by decide))) (by decide) ?_
  refine ev_istore_5 (pc := 20) dX7_total_20 (by decide) ?_
  refine ev_iload_n_1 (pc := 22) dX7_total_22 ?_
  refine ev_iload_5 (pc := 23) dX7_total_23 ?_
  refine ev_iadd (pc := 25) dX7_total_25 ?_
  refine ev_istore_n_1 (pc := 26) dX7_total_26 (by decide) ?_
  refine ev_iinc_4 (pc := 27) (v := 3) dX7_total_27 (by decide) (by decide) ?_
  refine ev_goto (pc := 30) (tgt := 10) dX7_total_30 (by decide) ?_
  refine ev_iload_4 (pc := 10) dX7_total_10 ?_
  refine ev_iload_n_3 (pc := 12) dX7_total_12 ?_
  refine ev_icmp_ge (pc := 13) (tgt := 33) dX7_total_13 (by decide) (fun h13 => by exact absurd h13 (by decide)) (fun h13 => ?_)
  refine ev_aload_n_2 (pc := 16) dX7_total_16 ?_
  refine ev_iload_4 (pc := 17) dX7_total_17 ?_
  refine ev_iaload' (pc := 19) (j := 3) dX7_total_19 ha.1 ha.2.1 (by rw [ha.2.2]; exact (vin_c (by decide))) (by decide) ?_
  refine ev_istore_5 (pc := 20) dX7_total_20 (by decide) ?_
  refine ev_iload_n_1 (pc := 22) dX7_total_22 ?_
  refine ev_iload_5 (pc := 23) dX7_total_23 ?_
  refine ev_iadd (pc := 25) dX7_total_25 ?_
  refine ev_istore_n_1 (pc := 26) dX7_total_26 (by decide) ?_
  refine ev_iinc_4 (pc := 27) (v := 4) dX7_total_27 (by decide) (by decide) ?_
  refine ev_goto (pc := 30) (tgt := 10) dX7_total_30 (by decide) ?_
  refine ev_iload_4 (pc := 10) dX7_total_10 ?_
  refine ev_iload_n_3 (pc := 12) dX7_total_12 ?_
  refine ev_icmp_ge (pc := 13) (tgt := 33) dX7_total_13 (by decide) (fun h13 => ?_) (fun h13 => by exact absurd h13 (by decide))
  refine ev_iload_n_1 (pc := 33) dX7_total_33 ?_
  exact ev_ireturn (pc := 34) dX7_total_34 rfl rfl (⟨rfl, rfl⟩)
set_option maxRecDepth 100000 in
theorem m_X7_numberOf {S : Scr} {a : Nat} (ha : IsA a 4) (σ : Sto) : Mt S yX7_numberOf cX7_numberOf 3 (some .int) 0 [.ref a] σ (Is (some (.int ((((0 * 6 + σ.1 a 0) * 6 + σ.1 a 1) * 6 + σ.1 a 2) * 6 + σ.1 a 3))) σ) := by
  refine mt_of (ls := [.ref a, .null, .null]) (by decide) rfl (Nat.le_of_ble_eq_true rfl) (by simp [Value.category]) ?_
  refine ev_iconst (pc := 0) (v := 0) dX7_numberOf_0 (by decide) ?_
  refine ev_istore_n_1 (pc := 1) dX7_numberOf_1 (by decide) ?_
  refine ev_iconst (pc := 2) (v := 0) dX7_numberOf_2 (by decide) ?_
  refine ev_istore_n_2 (pc := 3) dX7_numberOf_3 (by decide) ?_
  refine ev_iload_n_2 (pc := 4) dX7_numberOf_4 ?_
  refine ev_iconst (pc := 5) (v := 4) dX7_numberOf_5 (by decide) ?_
  refine ev_icmp_ge (pc := 6) (tgt := 24) dX7_numberOf_6 (by decide) (fun h6 => by exact absurd h6 (by decide)) (fun h6 => ?_)
  refine ev_iload_n_1 (pc := 9) dX7_numberOf_9 ?_
  refine ev_bipush (pc := 10) (v := 6) dX7_numberOf_10 (by decide) ?_
  refine ev_imul (pc := 12) dX7_numberOf_12 ?_
  refine ev_aload_n_0 (pc := 13) dX7_numberOf_13 ?_
  refine ev_iload_n_2 (pc := 14) dX7_numberOf_14 ?_
  refine ev_iaload' (pc := 15) (j := 0) dX7_numberOf_15 ha.1 ha.2.1 (by rw [ha.2.2]; exact (vin_c (by decide))) (by decide) ?_
  refine ev_iadd (pc := 16) dX7_numberOf_16 ?_
  refine ev_istore_n_1 (pc := 17) dX7_numberOf_17 (by decide) ?_
  refine ev_iinc_2 (pc := 18) (v := 1) dX7_numberOf_18 (by decide) (by decide) ?_
  refine ev_goto (pc := 21) (tgt := 4) dX7_numberOf_21 (by decide) ?_
  refine ev_iload_n_2 (pc := 4) dX7_numberOf_4 ?_
  refine ev_iconst (pc := 5) (v := 4) dX7_numberOf_5 (by decide) ?_
  refine ev_icmp_ge (pc := 6) (tgt := 24) dX7_numberOf_6 (by decide) (fun h6 => by exact absurd h6 (by decide)) (fun h6 => ?_)
  refine ev_iload_n_1 (pc := 9) dX7_numberOf_9 ?_
  refine ev_bipush (pc := 10) (v := 6) dX7_numberOf_10 (by decide) ?_
  refine ev_imul (pc := 12) dX7_numberOf_12 ?_
  refine ev_aload_n_0 (pc := 13) dX7_numberOf_13 ?_
  refine ev_iload_n_2 (pc := 14) dX7_numberOf_14 ?_
  refine ev_iaload' (pc := 15) (j := 1) dX7_numberOf_15 ha.1 ha.2.1 (by rw [ha.2.2]; exact (vin_c (by decide))) (by decide) ?_
  refine ev_iadd (pc := 16) dX7_numberOf_16 ?_
  refine ev_istore_n_1 (pc := 17) dX7_numberOf_17 (by decide) ?_
  refine ev_iinc_2 (pc := 18) (v := 2) dX7_numberOf_18 (by decide) (by decide) ?_
  refine ev_goto (pc := 21) (tgt := 4) dX7_numberOf_21 (by decide) ?_
  refine ev_iload_n_2 (pc := 4) dX7_numberOf_4 ?_
  refine ev_iconst (pc := 5) (v := 4) dX7_numberOf_5 (by decide) ?_
  refine ev_icmp_ge (pc := 6) (tgt := 24) dX7_numberOf_6 (by decide) (fun h6 => by exact absurd h6 (by decide)) (fun h6 => ?_)
  refine ev_iload_n_1 (pc := 9) dX7_numberOf_9 ?_
  refine ev_bipush (pc := 10) (v := 6) dX7_numberOf_10 (by decide) ?_
  refine ev_imul (pc := 12) dX7_numberOf_12 ?_
  refine ev_aload_n_0 (pc := 13) dX7_numberOf_13 ?_
  refine ev_iload_n_2 (pc := 14) dX7_numberOf_14 ?_
  refine ev_iaload' (pc := 15) (j := 2) dX7_numberOf_15 ha.1 ha.2.1 (by rw [ha.2.2]; exact (vin_c (by decide))) (by decide) ?_
  refine ev_iadd (pc := 16) dX7_numberOf_16 ?_
  refine ev_istore_n_1 (pc := 17) dX7_numberOf_17 (by decide) ?_
  refine ev_iinc_2 (pc := 18) (v := 3) dX7_numberOf_18 (by decide) (by decide) ?_
  refine ev_goto (pc := 21) (tgt := 4) dX7_numberOf_21 (by decide) ?_
  refine ev_iload_n_2 (pc := 4) dX7_numberOf_4 ?_
  refine ev_iconst (pc := 5) (v := 4) dX7_numberOf_5 (by decide) ?_
  refine ev_icmp_ge (pc := 6) (tgt := 24) dX7_numberOf_6 (by decide) (fun h6 => by exact absurd h6 (by decide)) (fun h6 => ?_)
  refine ev_iload_n_1 (pc := 9) dX7_numberOf_9 ?_
  refine ev_bipush (pc := 10) (v := 6) dX7_numberOf_10 (by decide) ?_
  refine ev_imul (pc := 12) dX7_numberOf_12 ?_
  refine ev_aload_n_0 (pc := 13) dX7_numberOf_13 ?_
  refine ev_iload_n_2 (pc := 14) dX7_numberOf_14 ?_
  refine ev_iaload' (pc := 15) (j := 3) dX7_numberOf_15 ha.1 ha.2.1 (by rw [ha.2.2]; exact (vin_c (by decide))) (by decide) ?_
  refine ev_iadd (pc := 16) dX7_numberOf_16 ?_
  refine ev_istore_n_1 (pc := 17) dX7_numberOf_17 (by decide) ?_
  refine ev_iinc_2 (pc := 18) (v := 4) dX7_numberOf_18 (by decide) (by decide) ?_
  refine ev_goto (pc := 21) (tgt := 4) dX7_numberOf_21 (by decide) ?_
  refine ev_iload_n_2 (pc := 4) dX7_numberOf_4 ?_
  refine ev_iconst (pc := 5) (v := 4) dX7_numberOf_5 (by decide) ?_
  refine ev_icmp_ge (pc := 6) (tgt := 24) dX7_numberOf_6 (by decide) (fun h6 => ?_) (fun h6 => by exact absurd h6 (by decide))
  refine ev_iload_n_1 (pc := 24) dX7_numberOf_24 ?_
  exact ev_ireturn (pc := 25) dX7_numberOf_25 rfl rfl (⟨rfl, rfl⟩)
def rem6 (x : Int32) : Int32 := x - x / 6 * 6
def rowW (σ : Sto) (a : Nat) (n : Int32) : Sto := wr (wr (wr (wr σ a 3 (rem6 n)) a 2 (rem6 (n / 6))) a 1 (rem6 (n / 6 / 6))) a 0 (rem6 (n / 6 / 6 / 6))
set_option maxRecDepth 100000 in
theorem m_X7_rowOf {S : Scr} {a : Nat} (ha : IsA a 4) (n : Int32) (σ : Sto) : Mt S yX7_rowOf cX7_rowOf 4 none 0 [.int n, .ref a] σ (Is none (rowW σ a n)) := by
  refine mt_of (ls := [.int n, .ref a, .null, .null]) (by decide) rfl (Nat.le_of_ble_eq_true rfl) (by simp [Value.category]) ?_
  refine ev_iload_n_0 (pc := 0) dX7_rowOf_0 ?_
  refine ev_istore_n_2 (pc := 1) dX7_rowOf_1 (by decide) ?_
  refine ev_iconst (pc := 2) (v := 3) dX7_rowOf_2 (by decide) ?_
  refine ev_istore_n_3 (pc := 3) dX7_rowOf_3 (by decide) ?_
  refine ev_iload_n_3 (pc := 4) dX7_rowOf_4 ?_
  refine ev_if_lt (pc := 5) (tgt := 26) dX7_rowOf_5 (by decide) (fun h5 => by exact absurd h5 (by decide)) (fun h5 => ?_)
  refine ev_aload_n_1 (pc := 8) dX7_rowOf_8 ?_
  refine ev_iload_n_3 (pc := 9) dX7_rowOf_9 ?_
  refine ev_iload_n_2 (pc := 10) dX7_rowOf_10 ?_
  refine ev_bipush (pc := 11) (v := 6) dX7_rowOf_11 (by decide) ?_
  refine ev_irem (pc := 13) dX7_rowOf_13 (by decide) ?_
  refine ev_iastore' (pc := 14) (j := 3) dX7_rowOf_14 ha.1 ha.2.1 (by rw [ha.2.2]; exact (vin_c (by decide))) (by decide) ?_
  refine ev_iload_n_2 (pc := 15) dX7_rowOf_15 ?_
  refine ev_bipush (pc := 16) (v := 6) dX7_rowOf_16 (by decide) ?_
  refine ev_idiv (pc := 18) dX7_rowOf_18 (by decide) ?_
  refine ev_istore_n_2 (pc := 19) dX7_rowOf_19 (by decide) ?_
  refine ev_iinc_3 (pc := 20) (v := 2) dX7_rowOf_20 (by decide) (by decide) ?_
  refine ev_goto (pc := 23) (tgt := 4) dX7_rowOf_23 (by decide) ?_
  refine ev_iload_n_3 (pc := 4) dX7_rowOf_4 ?_
  refine ev_if_lt (pc := 5) (tgt := 26) dX7_rowOf_5 (by decide) (fun h5 => by exact absurd h5 (by decide)) (fun h5 => ?_)
  refine ev_aload_n_1 (pc := 8) dX7_rowOf_8 ?_
  refine ev_iload_n_3 (pc := 9) dX7_rowOf_9 ?_
  refine ev_iload_n_2 (pc := 10) dX7_rowOf_10 ?_
  refine ev_bipush (pc := 11) (v := 6) dX7_rowOf_11 (by decide) ?_
  refine ev_irem (pc := 13) dX7_rowOf_13 (by decide) ?_
  refine ev_iastore' (pc := 14) (j := 2) dX7_rowOf_14 ha.1 ha.2.1 (by rw [ha.2.2]; exact (vin_c (by decide))) (by decide) ?_
  refine ev_iload_n_2 (pc := 15) dX7_rowOf_15 ?_
  refine ev_bipush (pc := 16) (v := 6) dX7_rowOf_16 (by decide) ?_
  refine ev_idiv (pc := 18) dX7_rowOf_18 (by decide) ?_
  refine ev_istore_n_2 (pc := 19) dX7_rowOf_19 (by decide) ?_
  refine ev_iinc_3 (pc := 20) (v := 1) dX7_rowOf_20 (by decide) (by decide) ?_
  refine ev_goto (pc := 23) (tgt := 4) dX7_rowOf_23 (by decide) ?_
  refine ev_iload_n_3 (pc := 4) dX7_rowOf_4 ?_
  refine ev_if_lt (pc := 5) (tgt := 26) dX7_rowOf_5 (by decide) (fun h5 => by exact absurd h5 (by decide)) (fun h5 => ?_)
  refine ev_aload_n_1 (pc := 8) dX7_rowOf_8 ?_
  refine ev_iload_n_3 (pc := 9) dX7_rowOf_9 ?_
  refine ev_iload_n_2 (pc := 10) dX7_rowOf_10 ?_
  refine ev_bipush (pc := 11) (v := 6) dX7_rowOf_11 (by decide) ?_
  refine ev_irem (pc := 13) dX7_rowOf_13 (by decide) ?_
  refine ev_iastore' (pc := 14) (j := 1) dX7_rowOf_14 ha.1 ha.2.1 (by rw [ha.2.2]; exact (vin_c (by decide))) (by decide) ?_
  refine ev_iload_n_2 (pc := 15) dX7_rowOf_15 ?_
  refine ev_bipush (pc := 16) (v := 6) dX7_rowOf_16 (by decide) ?_
  refine ev_idiv (pc := 18) dX7_rowOf_18 (by decide) ?_
  refine ev_istore_n_2 (pc := 19) dX7_rowOf_19 (by decide) ?_
  refine ev_iinc_3 (pc := 20) (v := 0) dX7_rowOf_20 (by decide) (by decide) ?_
  refine ev_goto (pc := 23) (tgt := 4) dX7_rowOf_23 (by decide) ?_
  refine ev_iload_n_3 (pc := 4) dX7_rowOf_4 ?_
  refine ev_if_lt (pc := 5) (tgt := 26) dX7_rowOf_5 (by decide) (fun h5 => by exact absurd h5 (by decide)) (fun h5 => ?_)
  refine ev_aload_n_1 (pc := 8) dX7_rowOf_8 ?_
  refine ev_iload_n_3 (pc := 9) dX7_rowOf_9 ?_
  refine ev_iload_n_2 (pc := 10) dX7_rowOf_10 ?_
  refine ev_bipush (pc := 11) (v := 6) dX7_rowOf_11 (by decide) ?_
  refine ev_irem (pc := 13) dX7_rowOf_13 (by decide) ?_
  refine ev_iastore' (pc := 14) (j := 0) dX7_rowOf_14 ha.1 ha.2.1 (by rw [ha.2.2]; exact (vin_c (by decide))) (by decide) ?_
  refine ev_iload_n_2 (pc := 15) dX7_rowOf_15 ?_
  refine ev_bipush (pc := 16) (v := 6) dX7_rowOf_16 (by decide) ?_
  refine ev_idiv (pc := 18) dX7_rowOf_18 (by decide) ?_
  refine ev_istore_n_2 (pc := 19) dX7_rowOf_19 (by decide) ?_
  refine ev_iinc_3 (pc := 20) (v := (-1)) dX7_rowOf_20 (by decide) (by decide) ?_
  refine ev_goto (pc := 23) (tgt := 4) dX7_rowOf_23 (by decide) ?_
  refine ev_iload_n_3 (pc := 4) dX7_rowOf_4 ?_
  refine ev_if_lt (pc := 5) (tgt := 26) dX7_rowOf_5 (by decide) (fun h5 => ?_) (fun h5 => by exact absurd h5 (by decide))
  exact ev_return (pc := 26) dX7_rowOf_26 rfl (⟨rfl, rfl⟩)
