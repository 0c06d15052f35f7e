/-! ===== the reference: calls, 3 ===== -/
theorem ws5 {σ : Sto} {x : Int32} {c j : Nat} (h : c ≠ 117 ∨ j ≠ 5) : (wr σ 117 5 x).1 c j = σ.1 c j := by
  rcases h with h | h
  · rw [wr_ne h]
  · rw [wr_nj h]
/-- the past's number drops, the row comes back -/
theorem RW.und {A : Abs} {σ : Sto} (h : RW A σ) (hn : aN A ≤ 6) {s : Scn} {l : List Scn} (hl : aP A = s :: l) : RW (undA A s l) (cpk (wr σ 117 5 (nI l.length)) 121 (11 * l.length) 120 0 11) := by
  obtain ⟨b, c, p, i, q, t, r⟩ := h
  have e : ∀ c, c ≠ 117 → c ≠ 120 → (cpk (wr σ 117 5 (nI l.length)) 121 (11 * l.length) 120 0 11).1 c = σ.1 c := fun c h1 h2 => by rw [cpk_ne h2, wr_ne h1]
  have e' : ∀ j, j ≠ 5 → (cpk (wr σ 117 5 (nI l.length)) 121 (11 * l.length) 120 0 11).1 117 j = σ.1 117 j := fun j hj => by rw [cpk_ne (by decide), wr_nj hj]
  refine ⟨b.mv (e' 0 (by decide)) (e 118 (by decide) (by decide)) (e 119 (by decide) (by decide)), ?_, ⟨by rw [cpk_ne (by decide), wr_at], fun k z hz => ?_⟩, i.mv (e 123 (by decide) (by decide)) (e 122 (by decide) (by decide)), q.mv (e' 8 (by decide)) (e 124 (by decide) (by decide)) (e 125 (by decide) (by decide)), t.mv (e' 13 (by decide)) (e 126 (by decide) (by decide)), r⟩
  · have m := p.2 0 s (by rw [hl]; rfl)
    rw [hl] at m
    have m' : mrow (wr σ 117 5 (nI l.length)) 121 (11 * l.length) (aN A) s := m.mv (wr_ne (by decide))
    exact m'.cp hn
  · have hz' : l[k]? = some z := hz
    have m := p.2 (k + 1) z (by rw [hl]; exact hz')
    rw [hl] at m
    have el : (s :: l).length - 1 - (k + 1) = l.length - 1 - k := by rw [List.length_cons]; omega
    rw [el] at m
    exact m.mv (e 121 (by decide) (by decide))
set_option maxRecDepth 100000 in
theorem m_X8_undo {S : Scr} {A : Abs} (s : Scn) (l : List Scn) (hl : aP A = s :: l) (σ : Sto) (h : RM A σ) (hA : AI (undA A s l)) : Mt S yX8_undo cX8_undo 1 (some .int) 1 [.ref 117] σ (PM (undA A s l) σ (nI l.length)) := by
  refine mt_of (ls := [.ref 117]) (by decide) rfl (Nat.le_of_ble_eq_true rfl) (by simp [Value.category]) ?_
  have hk := h.known
  rw [hl] at hk
  have hk2 : σ.1 117 5 - 1 = nI l.length := by rw [hk]; exact nI_m1 _
  have hl10 := h.len10
  rw [hl, List.length_cons] at hl10
  refine ev_aload_n_0 (pc := 0) dX8_undo_0 ?_
  refine ev_getI (pc := 1) dX8_undo_1 fl_X8_113 (by decide) (by decide) (by decide) ?_
  refine ev_if_ne (pc := 4) (tgt := 10) dX8_undo_4 (by decide) (fun h4 => ?_) (fun h4 => by rw [hk] at h4; exact absurd (nI_inj (b := 0) h4 (by rw [List.length_cons]; omega) (by decide)) (by rw [List.length_cons]; omega))
  refine ev_aload_n_0 (pc := 10) dX8_undo_10 ?_
  refine ev_dup (pc := 11) dX8_undo_11 rfl ?_
  refine ev_getI (pc := 12) dX8_undo_12 fl_X8_113 (by decide) (by decide) (by decide) ?_
  refine ev_iconst (pc := 15) (v := 1) dX8_undo_15 (by decide) ?_
  refine ev_isub (pc := 16) dX8_undo_16 ?_
  rw [hk2]
  refine ev_putI (pc := 17) dX8_undo_17 fl_X8_113 (by decide) (by decide) (by decide) ?_
  refine ev_aload_n_0 (pc := 20) dX8_undo_20 ?_
  refine ev_getR (pc := 21) (r := 120) dX8_undo_21 fl_X8_16 (by decide) (by decide) (by decide) (by decide) ?_
  refine ev_iconst (pc := 24) (v := 0) dX8_undo_24 (by decide) ?_
  refine ev_aload_n_0 (pc := 25) dX8_undo_25 ?_
  refine ev_getR (pc := 26) (r := 121) dX8_undo_26 fl_X8_19 (by decide) (by decide) (by decide) (by decide) ?_
  refine ev_bipush (pc := 29) (v := 11) dX8_undo_29 (by decide) ?_
  refine ev_aload_n_0 (pc := 31) dX8_undo_31 ?_
  refine ev_getI (pc := 32) dX8_undo_32 fl_X8_113 (by decide) (by decide) (by decide) ?_
  refine ev_imulc (pc := 35) (v := nI (11 * l.length)) dX8_undo_35 (by rw [wr_at]; exact nI_mul 11 _) ?_
  refine ev_callS0 (pc := 36) dX8_undo_36 ml_X8_119 (m_X8_copy isA_120 isA_121 (by decide) 0 (11 * l.length) (by decide) (by omega) (by decide) (by decide) _) rfl (by decide) rfl (Nat.le_of_ble_eq_true rfl) ?_
  refine ev_aload_n_0 (pc := 39) dX8_undo_39 ?_
  refine ev_getI (pc := 40) dX8_undo_40 fl_X8_113 (by decide) (by decide) (by decide) ?_
  exact ev_ireturn (pc := 43) dX8_undo_43 rfl rfl (⟨by rw [cpk_ne (by decide), wr_at], ⟨hA, RW.und h.2 h.n6 hl⟩, FrM.of (fun c hc => by rw [cpk_ne (by omega), wr_ne (by omega)]) rfl⟩)
set_option maxRecDepth 100000 in
theorem m_X8_undo1 {S : Scr} {A : Abs} (hl : aP A = []) (σ : Sto) (h : RM A σ) : Mt S yX8_undo cX8_undo 1 (some .int) 1 [.ref 117] σ (Is (some (.int (-2))) σ) := by
  refine mt_of (ls := [.ref 117]) (by decide) rfl (Nat.le_of_ble_eq_true rfl) (by simp [Value.category]) ?_
  have hk := h.known
  rw [hl] at hk
  refine ev_aload_n_0 (pc := 0) dX8_undo_0 ?_
  refine ev_getI (pc := 1) dX8_undo_1 fl_X8_113 (by decide) (by decide) (by decide) ?_
  refine ev_if_ne (pc := 4) (tgt := 10) dX8_undo_4 (by decide) (fun h4 => by exact absurd hk h4) (fun h4 => ?_)
  refine ev_bipush (pc := 7) (v := (-2)) dX8_undo_7 (by decide) ?_
  exact ev_ireturn (pc := 9) dX8_undo_9 rfl rfl (⟨rfl, rfl⟩)
theorem in255 {c : Int32} (h : ¬ c < 0 ∧ c ≤ 255) : bI ((0 : Int32) ≤ c ∧ c ≤ 255) = 1 := bI_t ⟨Int32.not_lt.mp h.1, h.2⟩
theorem RW.typ {A : Abs} {σ : Sto} (h : RW A σ) (c : Int32) : RW (setT A ((aT A).1 + 1, fun i => if i = (aT A).1 then c else (aT A).2 i)) (wr (wr σ 126 (aT A).1 c) 117 13 (nI ((aT A).1 + 1))) := by
  obtain ⟨b, cc, p, i, q, t, r⟩ := h
  have e : ∀ k, k ≠ 117 → k ≠ 126 → (wr (wr σ 126 (aT A).1 c) 117 13 (nI ((aT A).1 + 1))).1 k = σ.1 k := fun k h1 h2 => by rw [wr_ne h1, wr_ne h2]
  have e' : ∀ j, j ≠ 13 → (wr (wr σ 126 (aT A).1 c) 117 13 (nI ((aT A).1 + 1))).1 117 j = σ.1 117 j := fun j hj => by rw [wr_nj hj, wr_ne (by decide)]
  refine ⟨b.mv (e' 0 (by decide)) (e 118 (by decide) (by decide)) (e 119 (by decide) (by decide)), cc.mv (e 120 (by decide) (by decide)), p.mv (e' 5 (by decide)) (e 121 (by decide) (by decide)), i.mv (e 123 (by decide) (by decide)) (e 122 (by decide) (by decide)), q.mv (e' 8 (by decide)) (e 124 (by decide) (by decide)) (e 125 (by decide) (by decide)), ⟨by rw [wr_at], fun k hk => ?_⟩, r⟩
  have hk' : k < (aT A).1 + 1 := hk
  rw [wr_ne (by decide)]
  show _ = if k = (aT A).1 then c else (aT A).2 k
  by_cases z : k = (aT A).1
  · rw [if_pos z, z, wr_at]
  · rw [if_neg z, wr_nj z]; exact t.2 k (by omega)
theorem RW.clr {A : Abs} {σ : Sto} (h : RW A σ) : RW (setT A (0, (aT A).2)) (wr σ 117 13 0) := by
  obtain ⟨b, cc, p, i, q, t, r⟩ := h
  have e : ∀ k, k ≠ 117 → (wr σ 117 13 0).1 k = σ.1 k := fun k h1 => wr_ne h1
  have e' : ∀ j, j ≠ 13 → (wr σ 117 13 0).1 117 j = σ.1 117 j := fun j hj => wr_nj hj
  exact ⟨b.mv (e' 0 (by decide)) (e 118 (by decide)) (e 119 (by decide)), cc.mv (e 120 (by decide)), p.mv (e' 5 (by decide)) (e 121 (by decide)), i.mv (e 123 (by decide)) (e 122 (by decide)), q.mv (e' 8 (by decide)) (e 124 (by decide)) (e 125 (by decide)), ⟨by rw [wr_at]; rfl, fun k hk => absurd hk (Nat.not_lt_zero k)⟩, r⟩
theorem RW.fgt {A : Abs} {σ : Sto} (h : RW A σ) : RW (setS A []) (wr σ 117 8 0) := by
  obtain ⟨b, cc, p, i, q, t, r⟩ := h
  have e : ∀ k, k ≠ 117 → (wr σ 117 8 0).1 k = σ.1 k := fun k h1 => wr_ne h1
  have e' : ∀ j, j ≠ 8 → (wr σ 117 8 0).1 117 j = σ.1 117 j := fun j hj => wr_nj hj
  exact ⟨b.mv (e' 0 (by decide)) (e 118 (by decide)) (e 119 (by decide)), cc.mv (e 120 (by decide)), p.mv (e' 5 (by decide)) (e 121 (by decide)), i.mv (e 123 (by decide)) (e 122 (by decide)), ⟨by rw [wr_at]; rfl, fun k z hz => by cases hz⟩, t.mv (e' 13 (by decide)) (e 126 (by decide)), r⟩
set_option maxRecDepth 100000 in
theorem m_X8_type {S : Scr} {A : Abs} (c : Int32) (hc : ¬ c < 0 ∧ c ≤ 255) (hl : (aT A).1 < 120) (σ : Sto) (h : RM A σ) (hA : AI (setT A ((aT A).1 + 1, fun i => if i = (aT A).1 then c else (aT A).2 i))) : Mt S yX8_type cX8_type 2 (some .int) 1 [.ref 117, .int c] σ (PM (setT A ((aT A).1 + 1, fun i => if i = (aT A).1 then c else (aT A).2 i)) σ (nI ((aT A).1 + 1))) := by
  refine mt_of (ls := [.ref 117, .int c]) (by decide) rfl (Nat.le_of_ble_eq_true rfl) (by simp [Value.category]) ?_
  have ht := h.texted
  refine ev_iload_n_1 (pc := 0) dX8_type_0 ?_
  refine ev_iconst (pc := 1) (v := 0) dX8_type_1 (by decide) ?_
  refine ev_sipush (pc := 2) (v := 255) dX8_type_2 (by decide) ?_
  refine ev_callS1 (pc := 5) dX8_type_5 ml_X8_54 (m_X8_in _ _ _ σ) rfl (by decide) rfl (Nat.le_of_ble_eq_true rfl) ?_
  rw [in255 hc]
  refine ev_if_ne (pc := 8) (tgt := 13) dX8_type_8 (by decide) (fun h8 => ?_) (fun h8 => by exact absurd h8 (by decide))
  refine ev_aload_n_0 (pc := 13) dX8_type_13 ?_
  refine ev_getI (pc := 14) dX8_type_14 fl_X8_58 (by decide) (by decide) (by decide) ?_
  rw [ht]
  refine ev_bipush (pc := 17) (v := 120) dX8_type_17 (by decide) ?_
  refine ev_icmp_ne (pc := 19) (tgt := 25) dX8_type_19 (by decide) (fun h19 => ?_) (fun h19 => by exact absurd (nI_inj (b := 120) h19 (by omega) (by decide)) (by omega))
  refine ev_aload_n_0 (pc := 25) dX8_type_25 ?_
  refine ev_getR (pc := 26) (r := 126) dX8_type_26 fl_X8_35 (by decide) (by decide) (by decide) (by decide) ?_
  refine ev_aload_n_0 (pc := 29) dX8_type_29 ?_
  refine ev_getI (pc := 30) dX8_type_30 fl_X8_58 (by decide) (by decide) (by decide) ?_
  rw [ht]
  refine ev_iload_n_1 (pc := 33) dX8_type_33 ?_
  refine ev_iastore' (pc := 34) (j := (aT A).1) dX8_type_34 (by decide) (by decide) (show vp_in _ 120 from (vp_in_nI (by omega) (by decide))) (nI_clamp (by omega)) ?_
  refine ev_aload_n_0 (pc := 35) dX8_type_35 ?_
  refine ev_dup (pc := 36) dX8_type_36 rfl ?_
  refine ev_getI (pc := 37) dX8_type_37 fl_X8_58 (by decide) (by decide) (by decide) ?_
  rw [wr_ne (by decide), ht]
  refine ev_iconst (pc := 40) (v := 1) dX8_type_40 (by decide) ?_
  refine ev_iadd (pc := 41) dX8_type_41 ?_
  rw [nI_s1]
  refine ev_putI (pc := 42) dX8_type_42 fl_X8_58 (by decide) (by decide) (by decide) ?_
  refine ev_aload_n_0 (pc := 45) dX8_type_45 ?_
  refine ev_getI (pc := 46) dX8_type_46 fl_X8_58 (by decide) (by decide) (by decide) ?_
  exact ev_ireturn (pc := 49) dX8_type_49 rfl rfl (⟨by rw [wr_at], ⟨hA, RW.typ h.2 c⟩, (frM_wr (by decide)).tr (frM_wr (by decide))⟩)
set_option maxRecDepth 100000 in
theorem m_X8_type1 {S : Scr} {A : Abs} (c : Int32) (hc : ¬ c < 0 ∧ c ≤ 255) (hl : (aT A).1 = 120) (σ : Sto) (h : RM A σ) : Mt S yX8_type cX8_type 2 (some .int) 1 [.ref 117, .int c] σ (Is (some (.int (-3))) σ) := by
  refine mt_of (ls := [.ref 117, .int c]) (by decide) rfl (Nat.le_of_ble_eq_true rfl) (by simp [Value.category]) ?_
  have ht := h.texted
  rw [hl] at ht
  refine ev_iload_n_1 (pc := 0) dX8_type_0 ?_
  refine ev_iconst (pc := 1) (v := 0) dX8_type_1 (by decide) ?_
  refine ev_sipush (pc := 2) (v := 255) dX8_type_2 (by decide) ?_
  refine ev_callS1 (pc := 5) dX8_type_5 ml_X8_54 (m_X8_in _ _ _ σ) rfl (by decide) rfl (Nat.le_of_ble_eq_true rfl) ?_
  rw [in255 hc]
  refine ev_if_ne (pc := 8) (tgt := 13) dX8_type_8 (by decide) (fun h8 => ?_) (fun h8 => by exact absurd h8 (by decide))
  refine ev_aload_n_0 (pc := 13) dX8_type_13 ?_
  refine ev_getI (pc := 14) dX8_type_14 fl_X8_58 (by decide) (by decide) (by decide) ?_
  refine ev_bipush (pc := 17) (v := 120) dX8_type_17 (by decide) ?_
  refine ev_icmp_ne (pc := 19) (tgt := 25) dX8_type_19 (by decide) (fun h19 => by exact absurd ht h19) (fun h19 => ?_)
  refine ev_bipush (pc := 22) (v := (-3)) dX8_type_22 (by decide) ?_
  exact ev_ireturn (pc := 24) dX8_type_24 rfl rfl (⟨rfl, rfl⟩)
set_option maxRecDepth 100000 in
theorem m_X8_type0 {S : Scr} (c : Int32) (hc : ¬ (¬ c < 0 ∧ c ≤ 255)) (σ : Sto) : Mt S yX8_type cX8_type 2 (some .int) 1 [.ref 117, .int c] σ (Is (some (.int (-1))) σ) := by
  refine mt_of (ls := [.ref 117, .int c]) (by decide) rfl (Nat.le_of_ble_eq_true rfl) (by simp [Value.category]) ?_
  refine ev_iload_n_1 (pc := 0) dX8_type_0 ?_
  refine ev_iconst (pc := 1) (v := 0) dX8_type_1 (by decide) ?_
  refine ev_sipush (pc := 2) (v := 255) dX8_type_2 (by decide) ?_
  refine ev_callS1 (pc := 5) dX8_type_5 ml_X8_54 (m_X8_in _ _ _ σ) rfl (by decide) rfl (Nat.le_of_ble_eq_true rfl) ?_
  rw [bI_f (fun z => hc ⟨Int32.not_lt.mpr z.1, z.2⟩)]
  refine ev_if_ne (pc := 8) (tgt := 13) dX8_type_8 (by decide) (fun h8 => by exact absurd rfl h8) (fun h8 => ?_)
  refine ev_iconst (pc := 11) (v := (-1)) dX8_type_11 (by decide) ?_
  exact ev_ireturn (pc := 12) dX8_type_12 rfl rfl (⟨rfl, rfl⟩)
set_option maxRecDepth 100000 in
theorem m_X8_clear {S : Scr} {A : Abs} (σ : Sto) (h : RM A σ) (hA : AI (setT A (0, (aT A).2))) : Mt S yX8_clear cX8_clear 2 (some .int) 0 [.ref 117] σ (PM (setT A (0, (aT A).2)) σ (nI (aT A).1)) := by
  refine mt_of (ls := [.ref 117, .null]) (by decide) rfl (Nat.le_of_ble_eq_true rfl) (by simp [Value.category]) ?_
  refine ev_aload_n_0 (pc := 0) dX8_clear_0 ?_
  refine ev_getI (pc := 1) dX8_clear_1 fl_X8_58 (by decide) (by decide) (by decide) ?_
  refine ev_istore_n_1 (pc := 4) dX8_clear_4 (by decide) ?_
  refine ev_aload_n_0 (pc := 5) dX8_clear_5 ?_
  refine ev_iconst (pc := 6) (v := 0) dX8_clear_6 (by decide) ?_
  refine ev_putI (pc := 7) dX8_clear_7 fl_X8_58 (by decide) (by decide) (by decide) ?_
  refine ev_iload_n_1 (pc := 10) dX8_clear_10 ?_
  exact ev_ireturn (pc := 11) dX8_clear_11 rfl rfl (⟨by rw [h.texted], ⟨hA, RW.clr h.2⟩, frM_wr (by decide)⟩)
set_option maxRecDepth 100000 in
theorem m_X8_forget {S : Scr} {A : Abs} (σ : Sto) (h : RM A σ) (hA : AI (setS A [])) : Mt S yX8_forget cX8_forget 2 (some .int) 0 [.ref 117] σ (PM (setS A []) σ (nI (aS A).length)) := by
  refine mt_of (ls := [.ref 117, .null]) (by decide) rfl (Nat.le_of_ble_eq_true rfl) (by simp [Value.category]) ?_
  refine ev_aload_n_0 (pc := 0) dX8_forget_0 ?_
  refine ev_getI (pc := 1) dX8_forget_1 fl_X8_116 (by decide) (by decide) (by decide) ?_
  refine ev_istore_n_1 (pc := 4) dX8_forget_4 (by decide) ?_
  refine ev_aload_n_0 (pc := 5) dX8_forget_5 ?_
  refine ev_iconst (pc := 6) (v := 0) dX8_forget_6 (by decide) ?_
  refine ev_putI (pc := 7) dX8_forget_7 fl_X8_116 (by decide) (by decide) (by decide) ?_
  refine ev_iload_n_1 (pc := 10) dX8_forget_10 ?_
  exact ev_ireturn (pc := 11) dX8_forget_11 rfl rfl (⟨by rw [h.told], ⟨hA, RW.fgt h.2⟩, frM_wr (by decide)⟩)
theorem in01 {i : Nat} (h : i < 2) : bI ((0 : Int32) ≤ nI i ∧ nI i ≤ 1) = 1 := (by decide +kernel : ∀ i, i < 2 → bI ((0 : Int32) ≤ nI i ∧ nI i ≤ 1) = 1) i h
theorem le1_lt2 {x : Int32} (h : x ≤ 1) : x < 2 := by
  rw [tI_le, show (1 : Int32).toInt = 1 from rfl] at h
  rw [tI_lt, show (2 : Int32).toInt = 2 from rfl]; omega
theorem RW.kep {A : Abs} {σ : Sto} (h : RW A σ) (hn : aN A ≤ 6) {i : Nat} (hi : i < 2) : RW (setI A (fun j => if j = i then some (aC A) else aI A j)) (wr (cpk (nowW σ) 120 0 122 (11 * i) 11) 123 i 1) := by
  obtain ⟨b, c, p, im, q, t, r⟩ := h
  have e : ∀ k, k ≠ 122 → k ≠ 123 → k ≠ 129 → (wr (cpk (nowW σ) 120 0 122 (11 * i) 11) 123 i 1).1 k = σ.1 k := fun k h1 h2 h3 => by rw [wr_ne h2, cpk_ne h1, cpk_ne h3]
  have e0 := e 117 (by decide) (by decide) (by decide)
  refine ⟨b.mv (by rw [e0]) (e 118 (by decide) (by decide) (by decide)) (e 119 (by decide) (by decide) (by decide)), c.mv (e 120 (by decide) (by decide) (by decide)), p.mv (by rw [e0]) (e 121 (by decide) (by decide) (by decide)), fun j hj => ?_, q.mv (by rw [e0]) (e 124 (by decide) (by decide) (by decide)) (e 125 (by decide) (by decide) (by decide)), t.mv (by rw [e0]) (e 126 (by decide) (by decide) (by decide)), r⟩
  show (∀ s, (if j = i then some (aC A) else aI A j) = some s → _) ∧ ((if j = i then some (aC A) else aI A j) = none → _)
  have cn : mrow (nowW σ) 120 0 (aN A) (aC A) := c.mv (cpk_ne (by decide))
  by_cases z : j = i
  · rw [if_pos z, z]
    refine ⟨fun s hs => ⟨by rw [wr_at], ?_⟩, fun hs => by cases hs⟩
    cases hs
    exact (cn.cp hn).mv (wr_ne (by decide))
  · rw [if_neg z]
    refine ⟨fun s hs => ⟨?_, ?_⟩, fun hs => ?_⟩
    · rw [wr_nj z, cpk_ne (by decide), cpk_ne (by decide)]; exact ((im j hj).1 s hs).1
    · have m : mrow (nowW σ) 122 (11 * j) (aN A) s := ((im j hj).1 s hs).2.mv (cpk_ne (by decide))
      exact (m.cpo hn (by omega)).mv (wr_ne (by decide))
    · rw [wr_nj z, cpk_ne (by decide), cpk_ne (by decide)]; exact (im j hj).2 hs
theorem RW.bck {A : Abs} {σ : Sto} (h : RW A σ) (hn : aN A ≤ 6) {i : Nat} (hi : i < 2) {s : Scn} (hs : aI A i = some s) : RW (undA A s []) (wr (cpk σ 122 (11 * i) 120 0 11) 117 5 0) := by
  obtain ⟨b, c, p, im, q, t, r⟩ := h
  have e : ∀ k, k ≠ 117 → k ≠ 120 → (wr (cpk σ 122 (11 * i) 120 0 11) 117 5 0).1 k = σ.1 k := fun k h1 h2 => by rw [wr_ne h1, cpk_ne h2]
  have e' : ∀ j, j ≠ 5 → (wr (cpk σ 122 (11 * i) 120 0 11) 117 5 0).1 117 j = σ.1 117 j := fun j hj => by rw [wr_nj hj, cpk_ne (by decide)]
  exact ⟨b.mv (e' 0 (by decide)) (e 118 (by decide) (by decide)) (e 119 (by decide) (by decide)), (((im i hi).1 s hs).2.cp hn).mv (wr_ne (by decide)), ⟨by rw [wr_at]; rfl, fun k z hz => by cases hz⟩, im.mv (e 123 (by decide) (by decide)) (e 122 (by decide) (by decide)), q.mv (e' 8 (by decide)) (e 124 (by decide) (by decide)) (e 125 (by decide) (by decide)), t.mv (e' 13 (by decide)) (e 126 (by decide) (by decide)), r⟩
set_option maxRecDepth 100000 in
theorem m_X8_keep {S : Scr} {A : Abs} (i : Nat) (hi : i < 2) (σ : Sto) (h : RM A σ) (hA : AI (setI A (fun j => if j = i then some (aC A) else aI A j))) : Mt S yX8_keep cX8_keep 2 (some .int) 5 [.ref 117, .int (nI i)] σ (PM (setI A (fun j => if j = i then some (aC A) else aI A j)) σ (bcD (calmA' A))) := by
  refine mt_of (ls := [.ref 117, .int (nI i)]) (by decide) rfl (Nat.le_of_ble_eq_true rfl) (by simp [Value.category]) ?_
  have hw : RW (setI A (fun j => if j = i then some (aC A) else aI A j)) (wr (cpk (nowW σ) 120 0 122 (11 * i) 11) 123 i 1) := RW.kep h.2 h.n6 hi
  have hq : nwR A (wr (cpk (nowW σ) 120 0 122 (11 * i) 11) 123 i 1) (aC A) := ⟨h.n6, hw.1, h.now.mv (by rw [wr_ne (by decide), cpk_ne (by decide)]), h.1.2.2.1⟩
  refine ev_iload_n_1 (pc := 0) dX8_keep_0 ?_
  refine ev_iconst (pc := 1) (v := 0) dX8_keep_1 (by decide) ?_
  refine ev_iconst (pc := 2) (v := 1) dX8_keep_2 (by decide) ?_
  refine ev_callS1 (pc := 3) dX8_keep_3 ml_X8_54 (m_X8_in _ _ _ σ) rfl (by decide) rfl (Nat.le_of_ble_eq_true rfl) ?_
  rw [in01 hi]
  refine ev_if_ne (pc := 6) (tgt := 11) dX8_keep_6 (by decide) (fun h6 => ?_) (fun h6 => by exact absurd h6 (by decide))
  refine ev_aload_n_0 (pc := 11) dX8_keep_11 ?_
  refine ev_callV0 (pc := 12) dX8_keep_12 ml_X8_157 (m_X8_asItIs σ) (by decide) ⟨_, rfl, rfl⟩ rfl (by decide) rfl (Nat.le_of_ble_eq_true rfl) ?_
  refine ev_aload_n_0 (pc := 15) dX8_keep_15 ?_
  refine ev_getR (pc := 16) (r := 122) dX8_keep_16 fl_X8_22 (by decide) (by decide) (by decide) (by decide) ?_
  refine ev_bipush (pc := 19) (v := 11) dX8_keep_19 (by decide) ?_
  refine ev_iload_n_1 (pc := 21) dX8_keep_21 ?_
  refine ev_imulc (pc := 22) (v := nI (11 * i)) dX8_keep_22 (nI_mul 11 i) ?_
  refine ev_aload_n_0 (pc := 23) dX8_keep_23 ?_
  refine ev_getR (pc := 24) (r := 120) dX8_keep_24 fl_X8_16 (by decide) (by decide) (by decide) (by decide) ?_
  refine ev_iconst (pc := 27) (v := 0) dX8_keep_27 (by decide) ?_
  refine ev_callS0 (pc := 28) dX8_keep_28 ml_X8_119 (m_X8_copy isA_122 isA_120 (by decide) (11 * i) 0 (by omega) (by decide) (by decide) (by decide) _) rfl (by decide) rfl (Nat.le_of_ble_eq_true rfl) ?_
  refine ev_aload_n_0 (pc := 31) dX8_keep_31 ?_
  refine ev_getR (pc := 32) (r := 123) dX8_keep_32 fl_X8_25 (by decide) (by decide) (by decide) (by decide) ?_
  refine ev_iload_n_1 (pc := 35) dX8_keep_35 ?_
  refine ev_iconst (pc := 36) (v := 1) dX8_keep_36 (by decide) ?_
  refine ev_bastore' (pc := 37) (j := i) dX8_keep_37 (by decide) (by decide) (show vp_in _ 2 from (vp_in_nI (by omega) (by decide))) (nI_clamp (by omega)) (by decide) ?_
  refine ev_aload_n_0 (pc := 38) dX8_keep_38 ?_
  refine ev_callV1 (pc := 39) dX8_keep_39 ml_X8_161 (m_X8_calm _ hq) (by decide) ⟨_, rfl, rfl⟩ rfl (by decide) rfl (Nat.le_of_ble_eq_true rfl) ?_
  refine ev_callS1 (pc := 42) dX8_keep_42 ml_X8_174 (m_X8_bits _ _) rfl (by decide) rfl (Nat.le_of_ble_eq_true rfl) ?_
  exact ev_ireturn (pc := 45) dX8_keep_45 rfl rfl (⟨congrArg (fun z => some (Value.int z)) (bt_calm (A := A) h.n6), ⟨hA, hw⟩, FrM.of (fun c hc => by rw [wr_ne (by omega), cpk_ne (by omega), cpk_ne (by omega)]) rfl⟩)
set_option maxRecDepth 100000 in
theorem m_X8_keep0 {S : Scr} (i : Int32) (hi : ¬ (¬ i < 0 ∧ i < 2)) (σ : Sto) : Mt S yX8_keep cX8_keep 2 (some .int) 5 [.ref 117, .int i] σ (Is (some (.int (-1))) σ) := by
  refine mt_of (ls := [.ref 117, .int i]) (by decide) rfl (Nat.le_of_ble_eq_true rfl) (by simp [Value.category]) ?_
  refine ev_iload_n_1 (pc := 0) dX8_keep_0 ?_
  refine ev_iconst (pc := 1) (v := 0) dX8_keep_1 (by decide) ?_
  refine ev_iconst (pc := 2) (v := 1) dX8_keep_2 (by decide) ?_
  refine ev_callS1 (pc := 3) dX8_keep_3 ml_X8_54 (m_X8_in _ _ _ σ) rfl (by decide) rfl (Nat.le_of_ble_eq_true rfl) ?_
  rw [bI_f (fun z => hi ⟨Int32.not_lt.mpr z.1, le1_lt2 z.2⟩)]
  refine ev_if_ne (pc := 6) (tgt := 11) dX8_keep_6 (by decide) (fun h6 => by exact absurd rfl h6) (fun h6 => ?_)
  refine ev_iconst (pc := 9) (v := (-1)) dX8_keep_9 (by decide) ?_
  exact ev_ireturn (pc := 10) dX8_keep_10 rfl rfl (⟨rfl, rfl⟩)
set_option maxRecDepth 100000 in
theorem m_X8_back0 {S : Scr} (i : Int32) (hi : ¬ (¬ i < 0 ∧ i < 2)) (σ : Sto) : Mt S yX8_back cX8_back 2 (some .int) 5 [.ref 117, .int i] σ (Is (some (.int (-1))) σ) := by
  refine mt_of (ls := [.ref 117, .int i]) (by decide) rfl (Nat.le_of_ble_eq_true rfl) (by simp [Value.category]) ?_
  refine ev_iload_n_1 (pc := 0) dX8_back_0 ?_
  refine ev_iconst (pc := 1) (v := 0) dX8_back_1 (by decide) ?_
  refine ev_iconst (pc := 2) (v := 1) dX8_back_2 (by decide) ?_
  refine ev_callS1 (pc := 3) dX8_back_3 ml_X8_54 (m_X8_in _ _ _ σ) rfl (by decide) rfl (Nat.le_of_ble_eq_true rfl) ?_
  rw [bI_f (fun z => hi ⟨Int32.not_lt.mpr z.1, le1_lt2 z.2⟩)]
  refine ev_if_ne (pc := 6) (tgt := 11) dX8_back_6 (by decide) (fun h6 => by exact absurd rfl h6) (fun h6 => ?_)
  refine ev_iconst (pc := 9) (v := (-1)) dX8_back_9 (by decide) ?_
  exact ev_ireturn (pc := 10) dX8_back_10 rfl rfl (⟨rfl, rfl⟩)
set_option maxRecDepth 100000 in
theorem m_X8_back {S : Scr} {A : Abs} (i : Nat) (hi : i < 2) (s : Scn) (hs : aI A i = some s) (σ : Sto) (h : RM A σ) (hA : AI (undA A s [])) : Mt S yX8_back cX8_back 2 (some .int) 5 [.ref 117, .int (nI i)] σ (PM (undA A s []) σ (bcD (calmA' (undA A s [])))) := by
  refine mt_of (ls := [.ref 117, .int (nI i)]) (by decide) rfl (Nat.le_of_ble_eq_true rfl) (by simp [Value.category]) ?_
  have hw : RW (undA A s []) (wr (cpk σ 122 (11 * i) 120 0 11) 117 5 0) := RW.bck h.2 h.n6 hi hs
  have hk := ((h.2.2.2.2.1 i hi).1 s hs).1
  have hq := RW.nwR hw h.n6 hA.2.2.1
  refine ev_iload_n_1 (pc := 0) dX8_back_0 ?_
  refine ev_iconst (pc := 1) (v := 0) dX8_back_1 (by decide) ?_
  refine ev_iconst (pc := 2) (v := 1) dX8_back_2 (by decide) ?_
  refine ev_callS1 (pc := 3) dX8_back_3 ml_X8_54 (m_X8_in _ _ _ σ) rfl (by decide) rfl (Nat.le_of_ble_eq_true rfl) ?_
  rw [in01 hi]
  refine ev_if_ne (pc := 6) (tgt := 11) dX8_back_6 (by decide) (fun h6 => ?_) (fun h6 => by exact absurd h6 (by decide))
  refine ev_aload_n_0 (pc := 11) dX8_back_11 ?_
  refine ev_getR (pc := 12) (r := 123) dX8_back_12 fl_X8_25 (by decide) (by decide) (by decide) (by decide) ?_
  refine ev_iload_n_1 (pc := 15) dX8_back_15 ?_
  refine ev_baload' (pc := 16) (j := i) dX8_back_16 (by decide) (by decide) (show vp_in _ 2 from (vp_in_nI (by omega) (by decide))) (nI_clamp (by omega)) ?_
  rw [hk]
  refine ev_if_ne (pc := 17) (tgt := 23) dX8_back_17 (by decide) (fun h17 => ?_) (fun h17 => by exact absurd h17 (by decide))
  refine ev_aload_n_0 (pc := 23) dX8_back_23 ?_
  refine ev_getR (pc := 24) (r := 120) dX8_back_24 fl_X8_16 (by decide) (by decide) (by decide) (by decide) ?_
  refine ev_iconst (pc := 27) (v := 0) dX8_back_27 (by decide) ?_
  refine ev_aload_n_0 (pc := 28) dX8_back_28 ?_
  refine ev_getR (pc := 29) (r := 122) dX8_back_29 fl_X8_22 (by decide) (by decide) (by decide) (by decide) ?_
  refine ev_bipush (pc := 32) (v := 11) dX8_back_32 (by decide) ?_
  refine ev_iload_n_1 (pc := 34) dX8_back_34 ?_
  refine ev_imulc (pc := 35) (v := nI (11 * i)) dX8_back_35 (nI_mul 11 i) ?_
  refine ev_callS0 (pc := 36) dX8_back_36 ml_X8_119 (m_X8_copy isA_120 isA_122 (by decide) 0 (11 * i) (by decide) (by omega) (by decide) (by decide) _) rfl (by decide) rfl (Nat.le_of_ble_eq_true rfl) ?_
  refine ev_aload_n_0 (pc := 39) dX8_back_39 ?_
  refine ev_iconst (pc := 40) (v := 0) dX8_back_40 (by decide) ?_
  refine ev_putI (pc := 41) dX8_back_41 fl_X8_113 (by decide) (by decide) (by decide) ?_
  refine ev_aload_n_0 (pc := 44) dX8_back_44 ?_
  refine ev_callV0 (pc := 45) dX8_back_45 ml_X8_157 (m_X8_asItIs _) (by decide) ⟨_, rfl, rfl⟩ rfl (by decide) rfl (Nat.le_of_ble_eq_true rfl) ?_
  refine ev_aload_n_0 (pc := 48) dX8_back_48 ?_
  refine ev_callV1 (pc := 49) dX8_back_49 ml_X8_161 (m_X8_calm _ hq) (by decide) ⟨_, rfl, rfl⟩ rfl (by decide) rfl (Nat.le_of_ble_eq_true rfl) ?_
  refine ev_callS1 (pc := 52) dX8_back_52 ml_X8_174 (m_X8_bits _ _) rfl (by decide) rfl (Nat.le_of_ble_eq_true rfl) ?_
  exact ev_ireturn (pc := 55) dX8_back_55 rfl rfl (⟨congrArg (fun z => some (Value.int z)) (bt_calm (A := undA A s []) h.n6), RM.mv ⟨hA, hw⟩ (mls_now _), FrM.of (fun c hc => by rw [cpk_ne (by omega), wr_ne (by omega), cpk_ne (by omega)]) rfl⟩)
set_option maxRecDepth 100000 in
theorem m_X8_back1 {S : Scr} {A : Abs} (i : Nat) (hi : i < 2) (hs : aI A i = none) (σ : Sto) (h : RM A σ) : Mt S yX8_back cX8_back 2 (some .int) 5 [.ref 117, .int (nI i)] σ (Is (some (.int (-2))) σ) := by
  refine mt_of (ls := [.ref 117, .int (nI i)]) (by decide) rfl (Nat.le_of_ble_eq_true rfl) (by simp [Value.category]) ?_
  have hk := (h.2.2.2.2.1 i hi).2 hs
  refine ev_iload_n_1 (pc := 0) dX8_back_0 ?_
  refine ev_iconst (pc := 1) (v := 0) dX8_back_1 (by decide) ?_
  refine ev_iconst (pc := 2) (v := 1) dX8_back_2 (by decide) ?_
  refine ev_callS1 (pc := 3) dX8_back_3 ml_X8_54 (m_X8_in _ _ _ σ) rfl (by decide) rfl (Nat.le_of_ble_eq_true rfl) ?_
  rw [in01 hi]
  refine ev_if_ne (pc := 6) (tgt := 11) dX8_back_6 (by decide) (fun h6 => ?_) (fun h6 => by exact absurd h6 (by decide))
  refine ev_aload_n_0 (pc := 11) dX8_back_11 ?_
  refine ev_getR (pc := 12) (r := 123) dX8_back_12 fl_X8_25 (by decide) (by decide) (by decide) (by decide) ?_
  refine ev_iload_n_1 (pc := 15) dX8_back_15 ?_
  refine ev_baload' (pc := 16) (j := i) dX8_back_16 (by decide) (by decide) (show vp_in _ 2 from (vp_in_nI (by omega) (by decide))) (nI_clamp (by omega)) ?_
  rw [hk]
  refine ev_if_ne (pc := 17) (tgt := 23) dX8_back_17 (by decide) (fun h17 => by exact absurd rfl h17) (fun h17 => ?_)
  refine ev_bipush (pc := 20) (v := (-2)) dX8_back_20 (by decide) ?_
  exact ev_ireturn (pc := 22) dX8_back_22 rfl rfl (⟨rfl, rfl⟩)
