/-! ===== the reference: the stranger ===== -/
set_option maxRecDepth 100000 in
theorem m_X8_likeOf_0 {S : Scr} (r : Nat) (hr : r < 1296) (σ : Sto) : Mt S yX8_likeOf cX8_likeOf 2 (some .int) 0 [.int (nI r), .int 0] σ (Is (some (.int (dg r 0))) σ) := by
  refine mt_of (ls := [.int (nI r), .int 0]) (by decide) rfl (Nat.le_of_ble_eq_true rfl) (by simp [Value.category]) ?_
  refine ev_iload_n_1 (pc := 0) dX8_likeOf_0 ?_
  refine ev_if_ne (pc := 1) (tgt := 12) dX8_likeOf_1 (by decide) (fun h1 => by exact absurd h1 (by decide)) (fun h1 => ?_)
  refine ev_iload_n_0 (pc := 4) dX8_likeOf_4 ?_
  refine ev_sipush (pc := 5) (v := 216) dX8_likeOf_5 (by decide) ?_
  refine ev_idiv (pc := 8) dX8_likeOf_8 (by decide) ?_
  refine ev_goto (pc := 9) (tgt := 46) dX8_likeOf_9 (by decide) ?_
  exact ev_ireturn (pc := 46) dX8_likeOf_46 rfl rfl (⟨congrArg (fun z => some (Value.int z)) (pk_div (a := r) (d := 216) (by omega) (by decide) (by decide)), rfl⟩)
set_option maxRecDepth 100000 in
theorem m_X8_likeOf_1 {S : Scr} (r : Nat) (hr : r < 1296) (σ : Sto) : Mt S yX8_likeOf cX8_likeOf 2 (some .int) 0 [.int (nI r), .int 1] σ (Is (some (.int (dg r 1))) σ) := by
  refine mt_of (ls := [.int (nI r), .int 1]) (by decide) rfl (Nat.le_of_ble_eq_true rfl) (by simp [Value.category]) ?_
  refine ev_iload_n_1 (pc := 0) dX8_likeOf_0 ?_
  refine ev_if_ne (pc := 1) (tgt := 12) dX8_likeOf_1 (by decide) (fun h1 => ?_) (fun h1 => by exact absurd h1 (by decide))
  refine ev_iload_n_1 (pc := 12) dX8_likeOf_12 ?_
  refine ev_iconst (pc := 13) (v := 1) dX8_likeOf_13 (by decide) ?_
  refine ev_icmp_ne (pc := 14) (tgt := 27) dX8_likeOf_14 (by decide) (fun h14 => by exact absurd h14 (by decide)) (fun h14 => ?_)
  refine ev_iload_n_0 (pc := 17) dX8_likeOf_17 ?_
  refine ev_bipush (pc := 18) (v := 36) dX8_likeOf_18 (by decide) ?_
  refine ev_idiv (pc := 20) dX8_likeOf_20 (by decide) ?_
  refine ev_bipush (pc := 21) (v := 6) dX8_likeOf_21 (by decide) ?_
  refine ev_irem (pc := 23) dX8_likeOf_23 (by decide) ?_
  refine ev_goto (pc := 24) (tgt := 46) dX8_likeOf_24 (by decide) ?_
  exact ev_ireturn (pc := 46) dX8_likeOf_46 rfl rfl (⟨congrArg (fun z => some (Value.int z)) ((by rw [show nI r / 36 = nI (r / 36) from pk_div (a := r) (d := 36) (by omega) (by decide) (by decide)]; exact pk_rem (a := r / 36) (d := 6) (by omega) (by decide) (by decide))), rfl⟩)
set_option maxRecDepth 100000 in
theorem m_X8_likeOf_2 {S : Scr} (r : Nat) (hr : r < 1296) (σ : Sto) : Mt S yX8_likeOf cX8_likeOf 2 (some .int) 0 [.int (nI r), .int 2] σ (Is (some (.int (dg r 2))) σ) := by
  refine mt_of (ls := [.int (nI r), .int 2]) (by decide) rfl (Nat.le_of_ble_eq_true rfl) (by simp [Value.category]) ?_
  refine ev_iload_n_1 (pc := 0) dX8_likeOf_0 ?_
  refine ev_if_ne (pc := 1) (tgt := 12) dX8_likeOf_1 (by decide) (fun h1 => ?_) (fun h1 => by exact absurd h1 (by decide))
  refine ev_iload_n_1 (pc := 12) dX8_likeOf_12 ?_
  refine ev_iconst (pc := 13) (v := 1) dX8_likeOf_13 (by decide) ?_
  refine ev_icmp_ne (pc := 14) (tgt := 27) dX8_likeOf_14 (by decide) (fun h14 => ?_) (fun h14 => by exact absurd h14 (by decide))
  refine ev_iload_n_1 (pc := 27) dX8_likeOf_27 ?_
  refine ev_iconst (pc := 28) (v := 2) dX8_likeOf_28 (by decide) ?_
  refine ev_icmp_ne (pc := 29) (tgt := 42) dX8_likeOf_29 (by decide) (fun h29 => by exact absurd h29 (by decide)) (fun h29 => ?_)
  refine ev_iload_n_0 (pc := 32) dX8_likeOf_32 ?_
  refine ev_bipush (pc := 33) (v := 6) dX8_likeOf_33 (by decide) ?_
  refine ev_idiv (pc := 35) dX8_likeOf_35 (by decide) ?_
  refine ev_bipush (pc := 36) (v := 6) dX8_likeOf_36 (by decide) ?_
  refine ev_irem (pc := 38) dX8_likeOf_38 (by decide) ?_
  refine ev_goto (pc := 39) (tgt := 46) dX8_likeOf_39 (by decide) ?_
  exact ev_ireturn (pc := 46) dX8_likeOf_46 rfl rfl (⟨congrArg (fun z => some (Value.int z)) ((by rw [show nI r / 6 = nI (r / 6) from pk_div (a := r) (d := 6) (by omega) (by decide) (by decide)]; exact pk_rem (a := r / 6) (d := 6) (by omega) (by decide) (by decide))), rfl⟩)
set_option maxRecDepth 100000 in
theorem m_X8_likeOf_3 {S : Scr} (r : Nat) (hr : r < 1296) (σ : Sto) : Mt S yX8_likeOf cX8_likeOf 2 (some .int) 0 [.int (nI r), .int 3] σ (Is (some (.int (dg r 3))) σ) := by
  refine mt_of (ls := [.int (nI r), .int 3]) (by decide) rfl (Nat.le_of_ble_eq_true rfl) (by simp [Value.category]) ?_
  refine ev_iload_n_1 (pc := 0) dX8_likeOf_0 ?_
  refine ev_if_ne (pc := 1) (tgt := 12) dX8_likeOf_1 (by decide) (fun h1 => ?_) (fun h1 => by exact absurd h1 (by decide))
  refine ev_iload_n_1 (pc := 12) dX8_likeOf_12 ?_
  refine ev_iconst (pc := 13) (v := 1) dX8_likeOf_13 (by decide) ?_
  refine ev_icmp_ne (pc := 14) (tgt := 27) dX8_likeOf_14 (by decide) (fun h14 => ?_) (fun h14 => by exact absurd h14 (by decide))
  refine ev_iload_n_1 (pc := 27) dX8_likeOf_27 ?_
  refine ev_iconst (pc := 28) (v := 2) dX8_likeOf_28 (by decide) ?_
  refine ev_icmp_ne (pc := 29) (tgt := 42) dX8_likeOf_29 (by decide) (fun h29 => ?_) (fun h29 => by exact absurd h29 (by decide))
  refine ev_iload_n_0 (pc := 42) dX8_likeOf_42 ?_
  refine ev_bipush (pc := 43) (v := 6) dX8_likeOf_43 (by decide) ?_
  refine ev_irem (pc := 45) dX8_likeOf_45 (by decide) ?_
  exact ev_ireturn (pc := 46) dX8_likeOf_46 rfl rfl (⟨congrArg (fun z => some (Value.int z)) (pk_rem (a := r) (d := 6) (by omega) (by decide) (by decide)), rfl⟩)
theorem m_X8_likeOf {S : Scr} (r : Nat) (hr : r < 1296) (p : Nat) (hp : p < 4) (σ : Sto) : Mt S yX8_likeOf cX8_likeOf 2 (some .int) 0 [.int (nI r), .int (nI p)] σ (Is (some (.int (dg r p))) σ) := by
  match p, hp with
  | 0, _ => exact m_X8_likeOf_0 r hr σ
  | 1, _ => exact m_X8_likeOf_1 r hr σ
  | 2, _ => exact m_X8_likeOf_2 r hr σ
  | 3, _ => exact m_X8_likeOf_3 r hr σ
theorem dg_sm {r : Nat} (hr : r < 1296) (p : Nat) : ∃ v, v ≤ 5 ∧ dg r p = nI v := by
  unfold dg
  refine ⟨_, ?_, rfl⟩
  split
  · omega
  · split
    · omega
    · split <;> omega
abbrev offS (σ : Sto) (t at_ r : Nat) (q : Nat) : Int32 := σ.1 t (at_ + q) - dg r q
theorem sm_off : ∀ v, v ≤ 6 → ∀ d, d ≤ 5 → (nI v - nI d = 0 ↔ ¬ (0 < fr (nI v - nI d))) := by decide +kernel
theorem tst_0 (p : Nat) (a : Int32) : tst p a 0 = a := by unfold tst; rw [if_neg (fun z => absurd z.2 (by decide))]
theorem mienS {r : Nat} {σ : Sto} {t at_ : Nat} {f : Nat → Int32} (hf : ∀ q, q < 4 → σ.1 t (at_ + q) = f q) : mienM (offS σ t at_ r) 0 = mienD (dg r) 0 f 0 := by
  rw [mienD_O, mien_eq]
  have e : ∀ q, q < 4 → offS σ t at_ r q = offD (dg r) f 0 q := fun q hq => by unfold offD; rw [tst_0, ← hf q hq]
  unfold mienO mnO
  rw [e 0 (by decide), e 1 (by decide), e 2 (by decide), e 3 (by decide)]
theorem mienS_lt {r : Nat} {f : Nat → Int32} : ∃ v, v < 9 ∧ mienD (dg r) 0 f 0 = nI v := by
  rw [mienD_O, ← mien_eq]
  unfold mienM
  have h1 := wmS_lt (o := offD (dg r) f 0) (i := 0) (w := 0) (by decide) (by decide)
  have h2 := wmS_lt (o := offD (dg r) f 0) (i := 1) (by decide) h1
  have h3 : wmB (offD (dg r) f 0) < 4 := wmS_lt (i := 2) (by decide) h2
  split
  · split
    · exact ⟨_, by omega, rfl⟩
    · exact ⟨_, by omega, rfl⟩
  · exact ⟨0, by decide, rfl⟩
set_option maxRecDepth 100000 in
theorem b_X8_mienOf {S : Scr} {t m : Nat} (ht : IsA t m) (at_ : Nat) (h1 : at_ + 4 ≤ m) (hm : m < 1000) (r : Nat) (hr : r < 1296) (i : Nat) (hi : i < 3) (w : Nat) (hw : w < 4) (σ : Sto) {Q : Option Value → Sto → Prop} (K : Ev S RX8 cX8_mienOf 5 (some .int) 1 5 [.int (nI r), .ref t, .int (nI at_), .int (nI (wmS (offS σ t at_ r) i w)), .int (nI (i + 1 + 1))] [] σ (Q)) : Ev S RX8 cX8_mienOf 5 (some .int) 1 5 [.int (nI r), .ref t, .int (nI at_), .int (nI w), .int (nI (i + 1))] [] σ (Q) := by
  refine ev_iload_4 (pc := 5) dX8_mienOf_5 ?_
  refine ev_iconst (pc := 7) (v := 4) dX8_mienOf_7 (by decide) ?_
  refine ev_icmp_ge (pc := 8) (tgt := 57) dX8_mienOf_8 (by decide) (fun h8 => by exact absurd h8 (nI_ge (a := i + 1) (b := 4) (by omega) (by decide))) (fun h8 => ?_)
  refine ev_aload_n_1 (pc := 11) dX8_mienOf_11 ?_
  refine ev_iload_n_2 (pc := 12) dX8_mienOf_12 ?_
  refine ev_iload_4 (pc := 13) dX8_mienOf_13 ?_
  refine ev_iaddc (pc := 15) (v := nI (at_ + (i + 1))) dX8_mienOf_15 (nI_add at_ (i + 1)) ?_
  refine ev_iaload' (pc := 16) (j := (at_ + (i + 1))) dX8_mienOf_16 ht.1 ht.2.1 (by rw [ht.2.2]; exact (vp_in_nI (by omega) (by omega))) (nI_clamp (by omega)) ?_
  refine ev_iload_n_0 (pc := 17) dX8_mienOf_17 ?_
  refine ev_iload_4 (pc := 18) dX8_mienOf_18 ?_
  refine ev_callS1 (pc := 20) dX8_mienOf_20 ml_X8_199 (m_X8_likeOf r hr (i + 1) (by omega) σ) rfl (by decide) rfl (Nat.le_of_ble_eq_true rfl) ?_
  refine ev_isub (pc := 23) dX8_mienOf_23 ?_
  refine ev_callS1 (pc := 24) dX8_mienOf_24 ml_X8_130 (m_X8_far _ σ) rfl (by decide) rfl (Nat.le_of_ble_eq_true rfl) ?_
  refine ev_aload_n_1 (pc := 27) dX8_mienOf_27 ?_
  refine ev_iload_n_2 (pc := 28) dX8_mienOf_28 ?_
  refine ev_iload_n_3 (pc := 29) dX8_mienOf_29 ?_
  refine ev_iaddc (pc := 30) (v := nI (at_ + w)) dX8_mienOf_30 (nI_add at_ w) ?_
  refine ev_iaload' (pc := 31) (j := (at_ + w)) dX8_mienOf_31 ht.1 ht.2.1 (by rw [ht.2.2]; exact (vp_in_nI (by omega) (by omega))) (nI_clamp (by omega)) ?_
  refine ev_iload_n_0 (pc := 32) dX8_mienOf_32 ?_
  refine ev_iload_n_3 (pc := 33) dX8_mienOf_33 ?_
  refine ev_callS1 (pc := 34) dX8_mienOf_34 ml_X8_199 (m_X8_likeOf r hr w hw σ) rfl (by decide) rfl (Nat.le_of_ble_eq_true rfl) ?_
  refine ev_isub (pc := 37) dX8_mienOf_37 ?_
  refine ev_callS1 (pc := 38) dX8_mienOf_38 ml_X8_130 (m_X8_far _ σ) rfl (by decide) rfl (Nat.le_of_ble_eq_true rfl) ?_
  refine ev_icmp_le (pc := 41) (tgt := 49) dX8_mienOf_41 (by decide) (fun h41 => ?_) (fun h41 => ?_)
  · skip
    refine ev_iload_n_3 (pc := 49) dX8_mienOf_49 ?_
    refine ev_istore_n_3 (pc := 50) dX8_mienOf_50 (by decide) ?_
    refine ev_iinc_4 (pc := 51) (v := nI ((i + 1) + 1)) dX8_mienOf_51 (nI_inc (i + 1)) (by decide) ?_
    refine ev_goto (pc := 54) (tgt := 5) dX8_mienOf_54 (by decide) ?_
    exact ev_eq (by rw [wmS, if_pos h41]) rfl rfl K
  · skip
    refine ev_iload_4 (pc := 44) dX8_mienOf_44 ?_
    refine ev_goto (pc := 46) (tgt := 50) dX8_mienOf_46 (by decide) ?_
    refine ev_istore_n_3 (pc := 50) dX8_mienOf_50 (by decide) ?_
    refine ev_iinc_4 (pc := 51) (v := nI ((i + 1) + 1)) dX8_mienOf_51 (nI_inc (i + 1)) (by decide) ?_
    refine ev_goto (pc := 54) (tgt := 5) dX8_mienOf_54 (by decide) ?_
    exact ev_eq (by rw [wmS, if_neg h41]) rfl rfl K
theorem m_X8_mienOf {S : Scr} {t m : Nat} (ht : IsA t m) (at_ : Nat) (h1 : at_ + 4 ≤ m) (hm : m < 1000) (r : Nat) (hr : r < 1296) (f : Nat → Int32) (σ : Sto) (hf : ∀ q, q < 4 → σ.1 t (at_ + q) = f q) (hs : ∀ q, q < 4 → ∃ v, v ≤ 6 ∧ f q = nI v) : Mt S yX8_mienOf cX8_mienOf 5 (some .int) 1 [.int (nI r), .ref t, .int (nI at_)] σ (Is (some (.int (mienD (dg r) 0 f 0))) σ) := by
  refine mt_of (ls := [.int (nI r), .ref t, .int (nI at_), .null, .null]) (by decide) rfl (Nat.le_of_ble_eq_true rfl) (by simp [Value.category]) ?_
  have hw1 := wmS_lt (o := offS σ t at_ r) (i := 0) (w := 0) (by decide) (by decide)
  have hw2 := wmS_lt (o := offS σ t at_ r) (i := 1) (by decide) hw1
  have hw3 : wmB (offS σ t at_ r) < 4 := wmS_lt (i := 2) (by decide) hw2
  rw [← mienS (r := r) hf]
  have h0 : offS σ t at_ r (wmB (offS σ t at_ r)) = 0 ↔ ¬ (0 < fr (offS σ t at_ r (wmB (offS σ t at_ r)))) := by
    obtain ⟨v, hv, ev⟩ := hs _ hw3
    obtain ⟨d, hd, ed⟩ := dg_sm hr (wmB (offS σ t at_ r))
    unfold offS at ev ed ⊢
    rw [hf _ hw3, ev, ed]
    exact sm_off v hv d hd
  refine ev_iconst (pc := 0) (v := 0) dX8_mienOf_0 (by decide) ?_
  refine ev_istore_n_3 (pc := 1) dX8_mienOf_1 (by decide) ?_
  refine ev_iconst (pc := 2) (v := 1) dX8_mienOf_2 (by decide) ?_
  refine ev_istore_4 (pc := 3) dX8_mienOf_3 (by decide) ?_
  refine b_X8_mienOf ht at_ h1 hm r hr 0 (by decide) 0 (by decide) σ ?_
  refine b_X8_mienOf ht at_ h1 hm r hr 1 (by decide) _ hw1 σ ?_
  refine b_X8_mienOf ht at_ h1 hm r hr 2 (by decide) _ hw2 σ ?_
  refine ev_iload_4 (pc := 5) dX8_mienOf_5 ?_
  refine ev_iconst (pc := 7) (v := 4) dX8_mienOf_7 (by decide) ?_
  refine ev_icmp_ge (pc := 8) (tgt := 57) dX8_mienOf_8 (by decide) (fun h8 => ?_) (fun h8 => by exact absurd h8 (by decide))
  refine ev_aload_n_1 (pc := 57) dX8_mienOf_57 ?_
  refine ev_iload_n_2 (pc := 58) dX8_mienOf_58 ?_
  refine ev_iload_n_3 (pc := 59) dX8_mienOf_59 ?_
  refine ev_iaddc (pc := 60) (v := nI (at_ + (wmB (offS σ t at_ r)))) dX8_mienOf_60 (nI_add at_ (wmB (offS σ t at_ r))) ?_
  refine ev_iaload' (pc := 61) (j := (at_ + wmB (offS σ t at_ r))) dX8_mienOf_61 ht.1 ht.2.1 (by rw [ht.2.2]; exact (vp_in_nI (by omega) (by omega))) (nI_clamp (by omega)) ?_
  refine ev_iload_n_0 (pc := 62) dX8_mienOf_62 ?_
  refine ev_iload_n_3 (pc := 63) dX8_mienOf_63 ?_
  refine ev_callS1 (pc := 64) dX8_mienOf_64 ml_X8_199 (m_X8_likeOf r hr (wmB (offS σ t at_ r)) hw3 σ) rfl (by decide) rfl (Nat.le_of_ble_eq_true rfl) ?_
  refine ev_isub (pc := 67) dX8_mienOf_67 ?_
  refine ev_istore_4 (pc := 68) dX8_mienOf_68 (by decide) ?_
  refine ev_iload_4 (pc := 70) dX8_mienOf_70 ?_
  refine ev_if_ne (pc := 72) (tgt := 79) dX8_mienOf_72 (by decide) (fun h72 => ?_) (fun h72 => ?_)
  · skip
    refine ev_iload_4 (pc := 79) dX8_mienOf_79 ?_
    refine ev_if_le (pc := 81) (tgt := 92) dX8_mienOf_81 (by decide) (fun h81 => ?_) (fun h81 => ?_)
    · skip
      refine ev_iconst (pc := 92) (v := 2) dX8_mienOf_92 (by decide) ?_
      refine ev_iconst (pc := 93) (v := 2) dX8_mienOf_93 (by decide) ?_
      refine ev_iload_n_3 (pc := 94) dX8_mienOf_94 ?_
      refine ev_imulc (pc := 95) (v := nI (2 * (wmB (offS σ t at_ r)))) dX8_mienOf_95 (nI_mul 2 (wmB (offS σ t at_ r))) ?_
      refine ev_iaddc (pc := 96) (v := nI (2 + (2 * (wmB (offS σ t at_ r))))) dX8_mienOf_96 (nI_add 2 (2 * (wmB (offS σ t at_ r)))) ?_
      exact ev_ireturn (pc := 97) dX8_mienOf_97 rfl rfl (⟨by rw [mienM, if_pos (Decidable.not_not.mp (fun z => h72 (h0.mpr z))), if_pos h81], rfl⟩)
    · skip
      refine ev_iconst (pc := 84) (v := 1) dX8_mienOf_84 (by decide) ?_
      refine ev_iconst (pc := 85) (v := 2) dX8_mienOf_85 (by decide) ?_
      refine ev_iload_n_3 (pc := 86) dX8_mienOf_86 ?_
      refine ev_imulc (pc := 87) (v := nI (2 * (wmB (offS σ t at_ r)))) dX8_mienOf_87 (nI_mul 2 (wmB (offS σ t at_ r))) ?_
      refine ev_iaddc (pc := 88) (v := nI (1 + (2 * (wmB (offS σ t at_ r))))) dX8_mienOf_88 (nI_add 1 (2 * (wmB (offS σ t at_ r)))) ?_
      refine ev_goto (pc := 89) (tgt := 97) dX8_mienOf_89 (by decide) ?_
      exact ev_ireturn (pc := 97) dX8_mienOf_97 rfl rfl (⟨by rw [mienM, if_pos (Decidable.not_not.mp (fun z => h72 (h0.mpr z))), if_neg h81], rfl⟩)
  · skip
    refine ev_iconst (pc := 75) (v := 0) dX8_mienOf_75 (by decide) ?_
    refine ev_goto (pc := 76) (tgt := 97) dX8_mienOf_76 (by decide) ?_
    exact ev_ireturn (pc := 97) dX8_mienOf_97 rfl rfl (⟨by rw [mienM, if_neg (h0.mp h72)], rfl⟩)
