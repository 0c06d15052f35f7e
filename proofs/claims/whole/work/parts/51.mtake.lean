/-! ===== the reference: takesNumber ===== -/
/-- the token read from cursor c is in place -/
def nxT (f : Nat → Int32) (n c : Nat) (τ : Sto) : Prop := τ.1 117 15 = nI (skp f n c) ∧
  ((¬ skp f n c < n ∧ τ.1 117 16 = 0) ∨
   (isd f n (skp f n c) ∧ ¬ isd f n (skp f n c + 1) ∧ τ.1 117 16 = 2 ∧ τ.1 117 17 = f (skp f n c) - 48 ∧ τ.1 117 14 = nI (skp f n c + 1)) ∨
   (isd f n (skp f n c) ∧ isd f n (skp f n c + 1) ∧ (τ.1 117 16 = 4 ∨ (τ.1 117 16 = 2 ∧ 10 ≤ τ.1 117 17))) ∨
   (skp f n c < n ∧ ¬ isd f n (skp f n c) ∧ τ.1 117 16 = tokC (f (skp f n c)) ∧ τ.1 117 17 = f (skp f n c) ∧ τ.1 117 14 = nI (skp f n c + 1)))
theorem nxP.T {f : Nat → Int32} {n c : Nat} {σ τ : Sto} (h : nxP f n c σ τ) : nxT f n c τ := h.2
theorem nxT.mv {f : Nat → Int32} {n c : Nat} {σ τ : Sto} (h : nxT f n c σ) (g : ∀ j, 14 ≤ j → j ≤ 17 → τ.1 117 j = σ.1 117 j) : nxT f n c τ := by
  unfold nxT
  rw [g 14 (by decide) (by decide), g 15 (by decide) (by decide), g 16 (by decide) (by decide), g 17 (by decide) (by decide)]
  exact h
theorem tokC_ne2 (c : Int32) : ¬ tokC c = 2 := by unfold tokC; split; decide; split <;> decide
/-- what can be taken, both ways -/
theorem num_ok {f : Nat → Int32} {n c : Nat} {τ : Sto} (h : nxT f n c τ) {l : Int32} (hl : l ≤ 9) : (τ.1 117 16 = 2 ∧ 0 ≤ τ.1 117 17 ∧ τ.1 117 17 ≤ l) ↔ numOk f n (skp f n c) l := by
  have dneg : ∀ s, dgt f n s < 0 ↔ ¬ isd f n s := by
    intro s
    unfold dgt
    by_cases z : isd f n s
    · rw [if_pos z]
      obtain ⟨w, hw, e⟩ := fig z
      rw [e, show nI (48 + w) - 48 = nI (48 + w - 48) from nI_sub (b := 48) (by omega) (by omega)]
      exact ⟨fun y => absurd y (nI_pos (by omega)), fun y => absurd z y⟩
    · rw [if_neg z]; exact ⟨fun _ => z, fun _ => by decide⟩
  unfold numOk
  rw [dneg, dneg, Int32.not_lt]
  rcases h.2 with z | z | z | z
  · refine ⟨fun y => absurd (z.2.symm.trans y.1) (by decide), fun y => absurd (Decidable.not_not.mp y.1).1 z.1⟩
  · rw [z.2.2.1, z.2.2.2.1]
    have e : dgt f n (skp f n c) = f (skp f n c) - 48 := by unfold dgt; rw [if_pos z.1]
    rw [e]
    refine ⟨fun y => ⟨fun x => x z.1, y.2.2, z.2.1⟩, fun y => ⟨rfl, ?_, y.2.1⟩⟩
    obtain ⟨w, hw, ew⟩ := fig z.1
    rw [ew, show nI (48 + w) - 48 = nI (48 + w - 48) from nI_sub (b := 48) (by omega) (by omega)]
    exact nI_le (a := 0) (by omega) (by omega)
  · refine ⟨fun y => ?_, fun y => absurd z.2.1 y.2.2⟩
    rcases z.2.2 with x | x
    · exact absurd (x.symm.trans y.1) (by decide)
    · have h1 := x.2
      have h2 := y.2.2
      rw [tI_le, show (10 : Int32).toInt = 10 from rfl] at h1
      rw [tI_le] at h2 hl
      rw [show (9 : Int32).toInt = 9 from rfl] at hl
      omega
  · exact ⟨fun y => absurd (z.2.2.1.symm.trans y.1) (tokC_ne2 _), fun y => absurd z.2.1 y.1⟩
theorem num_c {f : Nat → Int32} {n c : Nat} {τ : Sto} (h : nxT f n c τ) {l : Int32} (hk : numOk f n (skp f n c) l) : skp f n c < n ∧ τ.1 117 14 = nI (skp f n c + 1) ∧ τ.1 117 17 = dgt f n (skp f n c) := by
  have d0 : isd f n (skp f n c) := Decidable.not_not.mp (fun z => hk.1 (by unfold dgt; rw [if_neg z]; decide))
  have d1 : ¬ isd f n (skp f n c + 1) := fun z => by
    have := hk.2.2
    unfold dgt at this
    rw [if_pos z] at this
    obtain ⟨w, hw, e⟩ := fig z
    rw [e, show nI (48 + w) - 48 = nI (48 + w - 48) from nI_sub (b := 48) (by omega) (by omega)] at this
    exact absurd this (nI_pos (by omega))
  rcases h.2 with z | z | z | z
  · exact absurd d0.1 z.1
  · refine ⟨d0.1, z.2.2.2.2, ?_⟩
    rw [z.2.2.2.1]; unfold dgt; rw [if_pos d0]
  · exact absurd z.2.1 d1
  · exact absurd d0 z.2.1
set_option maxRecDepth 100000 in
theorem m_X8_takesNumber {S : Scr} (f : Nat → Int32) (n c : Nat) (l : Int32) (hl : l ≤ 9) (σ : Sto) (h : txT f n σ) (hT : nxT f n c σ) (hw : σ.1 117 18 = 0) (hk : numOk f n (skp f n c) l) : Mt S yX8_takesNumber cX8_takesNumber 5 (some .int) 3 [.ref 117, .int 0, .int l] σ (fun r τ => r = some (.int (dgt f n (skp f n c))) ∧ nxP f n (skp f n c + 1) σ τ) := by
  refine mt_of (ls := [.ref 117, .int 0, .int l, .null, .null]) (by decide) rfl (Nat.le_of_ble_eq_true rfl) (by simp [Value.category]) ?_
  have hq := (num_ok hT hl).mpr hk
  have hc := num_c hT hk
  have hws : wr σ 117 18 0 = σ := by rw [← hw]; exact wr_self σ 117 18
  refine ev_aload_n_0 (pc := 0) dX8_takesNumber_0 ?_
  refine ev_getI (pc := 1) dX8_takesNumber_1 fl_X8_81 (by decide) (by decide) (by decide) ?_
  rw [hw]
  refine ev_if_ne (pc := 4) (tgt := 31) dX8_takesNumber_4 (by decide) (fun h4 => by exact absurd rfl h4) (fun h4 => ?_)
  refine ev_aload_n_0 (pc := 7) dX8_takesNumber_7 ?_
  refine ev_getI (pc := 8) dX8_takesNumber_8 fl_X8_74 (by decide) (by decide) (by decide) ?_
  rw [hq.1]
  refine ev_iconst (pc := 11) (v := 2) dX8_takesNumber_11 (by decide) ?_
  refine ev_icmp_ne (pc := 12) (tgt := 31) dX8_takesNumber_12 (by decide) (fun h12 => by exact absurd rfl h12) (fun h12 => ?_)
  refine ev_aload_n_0 (pc := 15) dX8_takesNumber_15 ?_
  refine ev_getI (pc := 16) dX8_takesNumber_16 fl_X8_71 (by decide) (by decide) (by decide) ?_
  refine ev_iload_n_1 (pc := 19) dX8_takesNumber_19 ?_
  refine ev_iload_n_2 (pc := 20) dX8_takesNumber_20 ?_
  refine ev_callS1 (pc := 21) dX8_takesNumber_21 ml_X8_54 (m_X8_in _ _ _ σ) rfl (by decide) rfl (Nat.le_of_ble_eq_true rfl) ?_
  rw [bI_t hq.2]
  refine ev_if_eq (pc := 24) (tgt := 31) dX8_takesNumber_24 (by decide) (fun h24 => by exact absurd h24 (by decide)) (fun h24 => ?_)
  refine ev_iconst (pc := 27) (v := 1) dX8_takesNumber_27 (by decide) ?_
  refine ev_goto (pc := 28) (tgt := 32) dX8_takesNumber_28 (by decide) ?_
  refine ev_istore_n_3 (pc := 32) dX8_takesNumber_32 (by decide) ?_
  refine ev_aload_n_0 (pc := 33) dX8_takesNumber_33 ?_
  refine ev_iload_n_3 (pc := 34) dX8_takesNumber_34 ?_
  refine ev_if_ne (pc := 35) (tgt := 42) dX8_takesNumber_35 (by decide) (fun h35 => ?_) (fun h35 => by exact absurd h35 (by decide))
  refine ev_iconst (pc := 42) (v := 0) dX8_takesNumber_42 (by decide) ?_
  refine ev_putZ (pc := 43) dX8_takesNumber_43 fl_X8_81 (by decide) (by decide) (by decide) (by decide) ?_
  rw [hws]
  refine ev_aload_n_0 (pc := 46) dX8_takesNumber_46 ?_
  refine ev_getI (pc := 47) dX8_takesNumber_47 fl_X8_71 (by decide) (by decide) (by decide) ?_
  rw [hc.2.2]
  refine ev_istore_4 (pc := 50) dX8_takesNumber_50 (by decide) ?_
  refine ev_iload_n_3 (pc := 52) dX8_takesNumber_52 ?_
  refine ev_if_eq (pc := 53) (tgt := 60) dX8_takesNumber_53 (by decide) (fun h53 => by exact absurd h53 (by decide)) (fun h53 => ?_)
  refine ev_aload_n_0 (pc := 56) dX8_takesNumber_56 ?_
  refine ev_callV (pc := 57) dX8_takesNumber_57 ml_X8_85 (m_X8_next f n (skp f n c + 1) hc.1 σ h hc.2.1) (by decide) ⟨_, rfl, rfl⟩ rfl (by decide) rfl (Nat.le_of_ble_eq_true rfl) ?_
  rintro r τ ⟨rfl, hP⟩
  refine ev_iload_n_3 (pc := 60) dX8_takesNumber_60 ?_
  refine ev_if_eq (pc := 61) (tgt := 69) dX8_takesNumber_61 (by decide) (fun h61 => by exact absurd h61 (by decide)) (fun h61 => ?_)
  refine ev_iload_4 (pc := 64) dX8_takesNumber_64 ?_
  refine ev_goto (pc := 66) (tgt := 70) dX8_takesNumber_66 (by decide) ?_
  exact ev_ireturn (pc := 70) dX8_takesNumber_70 rfl rfl (⟨rfl, hP⟩)
set_option maxRecDepth 100000 in
theorem m_X8_takesNumber0 {S : Scr} (f : Nat → Int32) (n c : Nat) (l : Int32) (hl : l ≤ 9) (σ : Sto) (hT : nxT f n c σ) (hk : ¬ (σ.1 117 18 = 0 ∧ numOk f n (skp f n c) l)) : Mt S yX8_takesNumber cX8_takesNumber 5 (some .int) 3 [.ref 117, .int 0, .int l] σ (Is (some (.int 0)) (wr σ 117 18 1)) := by
  refine mt_of (ls := [.ref 117, .int 0, .int l, .null, .null]) (by decide) rfl (Nat.le_of_ble_eq_true rfl) (by simp [Value.category]) ?_
  refine ev_aload_n_0 (pc := 0) dX8_takesNumber_0 ?_
  refine ev_getI (pc := 1) dX8_takesNumber_1 fl_X8_81 (by decide) (by decide) (by decide) ?_
  refine ev_if_ne (pc := 4) (tgt := 31) dX8_takesNumber_4 (by decide) (fun h4 => ?_) (fun h4 => ?_)
  · skip
    refine ev_iconst (pc := 31) (v := 0) dX8_takesNumber_31 (by decide) ?_
    refine ev_istore_n_3 (pc := 32) dX8_takesNumber_32 (by decide) ?_
    refine ev_aload_n_0 (pc := 33) dX8_takesNumber_33 ?_
    refine ev_iload_n_3 (pc := 34) dX8_takesNumber_34 ?_
    refine ev_if_ne (pc := 35) (tgt := 42) dX8_takesNumber_35 (by decide) (fun h35 => by exact absurd h35 (by decide)) (fun h35 => ?_)
    refine ev_iconst (pc := 38) (v := 1) dX8_takesNumber_38 (by decide) ?_
    refine ev_goto (pc := 39) (tgt := 43) dX8_takesNumber_39 (by decide) ?_
    refine ev_putZ (pc := 43) dX8_takesNumber_43 fl_X8_81 (by decide) (by decide) (by decide) (by decide) ?_
    refine ev_aload_n_0 (pc := 46) dX8_takesNumber_46 ?_
    refine ev_getI (pc := 47) dX8_takesNumber_47 fl_X8_71 (by decide) (by decide) (by decide) ?_
    refine ev_istore_4 (pc := 50) dX8_takesNumber_50 (by decide) ?_
    refine ev_iload_n_3 (pc := 52) dX8_takesNumber_52 ?_
    refine ev_if_eq (pc := 53) (tgt := 60) dX8_takesNumber_53 (by decide) (fun h53 => ?_) (fun h53 => by exact absurd h53 (by decide))
    refine ev_iload_n_3 (pc := 60) dX8_takesNumber_60 ?_
    refine ev_if_eq (pc := 61) (tgt := 69) dX8_takesNumber_61 (by decide) (fun h61 => ?_) (fun h61 => by exact absurd h61 (by decide))
    refine ev_iconst (pc := 69) (v := 0) dX8_takesNumber_69 (by decide) ?_
    exact ev_ireturn (pc := 70) dX8_takesNumber_70 rfl rfl (⟨rfl, rfl⟩)
  · skip
    refine ev_aload_n_0 (pc := 7) dX8_takesNumber_7 ?_
    refine ev_getI (pc := 8) dX8_takesNumber_8 fl_X8_74 (by decide) (by decide) (by decide) ?_
    refine ev_iconst (pc := 11) (v := 2) dX8_takesNumber_11 (by decide) ?_
    refine ev_icmp_ne (pc := 12) (tgt := 31) dX8_takesNumber_12 (by decide) (fun h12 => ?_) (fun h12 => ?_)
    · skip
      refine ev_iconst (pc := 31) (v := 0) dX8_takesNumber_31 (by decide) ?_
      refine ev_istore_n_3 (pc := 32) dX8_takesNumber_32 (by decide) ?_
      refine ev_aload_n_0 (pc := 33) dX8_takesNumber_33 ?_
      refine ev_iload_n_3 (pc := 34) dX8_takesNumber_34 ?_
      refine ev_if_ne (pc := 35) (tgt := 42) dX8_takesNumber_35 (by decide) (fun h35 => by exact absurd h35 (by decide)) (fun h35 => ?_)
      refine ev_iconst (pc := 38) (v := 1) dX8_takesNumber_38 (by decide) ?_
      refine ev_goto (pc := 39) (tgt := 43) dX8_takesNumber_39 (by decide) ?_
      refine ev_putZ (pc := 43) dX8_takesNumber_43 fl_X8_81 (by decide) (by decide) (by decide) (by decide) ?_
      refine ev_aload_n_0 (pc := 46) dX8_takesNumber_46 ?_
      refine ev_getI (pc := 47) dX8_takesNumber_47 fl_X8_71 (by decide) (by decide) (by decide) ?_
      refine ev_istore_4 (pc := 50) dX8_takesNumber_50 (by decide) ?_
      refine ev_iload_n_3 (pc := 52) dX8_takesNumber_52 ?_
      refine ev_if_eq (pc := 53) (tgt := 60) dX8_takesNumber_53 (by decide) (fun h53 => ?_) (fun h53 => by exact absurd h53 (by decide))
      refine ev_iload_n_3 (pc := 60) dX8_takesNumber_60 ?_
      refine ev_if_eq (pc := 61) (tgt := 69) dX8_takesNumber_61 (by decide) (fun h61 => ?_) (fun h61 => by exact absurd h61 (by decide))
      refine ev_iconst (pc := 69) (v := 0) dX8_takesNumber_69 (by decide) ?_
      exact ev_ireturn (pc := 70) dX8_takesNumber_70 rfl rfl (⟨rfl, rfl⟩)
    · skip
      refine ev_aload_n_0 (pc := 15) dX8_takesNumber_15 ?_
      refine ev_getI (pc := 16) dX8_takesNumber_16 fl_X8_71 (by decide) (by decide) (by decide) ?_
      refine ev_iload_n_1 (pc := 19) dX8_takesNumber_19 ?_
      refine ev_iload_n_2 (pc := 20) dX8_takesNumber_20 ?_
      refine ev_callS1 (pc := 21) dX8_takesNumber_21 ml_X8_54 (m_X8_in _ _ _ σ) rfl (by decide) rfl (Nat.le_of_ble_eq_true rfl) ?_
      refine ev_if_eq (pc := 24) (tgt := 31) dX8_takesNumber_24 (by decide) (fun h24 => ?_) (fun h24 => ?_)
      · skip
        refine ev_iconst (pc := 31) (v := 0) dX8_takesNumber_31 (by decide) ?_
        refine ev_istore_n_3 (pc := 32) dX8_takesNumber_32 (by decide) ?_
        refine ev_aload_n_0 (pc := 33) dX8_takesNumber_33 ?_
        refine ev_iload_n_3 (pc := 34) dX8_takesNumber_34 ?_
        refine ev_if_ne (pc := 35) (tgt := 42) dX8_takesNumber_35 (by decide) (fun h35 => by exact absurd h35 (by decide)) (fun h35 => ?_)
        refine ev_iconst (pc := 38) (v := 1) dX8_takesNumber_38 (by decide) ?_
        refine ev_goto (pc := 39) (tgt := 43) dX8_takesNumber_39 (by decide) ?_
        refine ev_putZ (pc := 43) dX8_takesNumber_43 fl_X8_81 (by decide) (by decide) (by decide) (by decide) ?_
        refine ev_aload_n_0 (pc := 46) dX8_takesNumber_46 ?_
        refine ev_getI (pc := 47) dX8_takesNumber_47 fl_X8_71 (by decide) (by decide) (by decide) ?_
        refine ev_istore_4 (pc := 50) dX8_takesNumber_50 (by decide) ?_
        refine ev_iload_n_3 (pc := 52) dX8_takesNumber_52 ?_
        refine ev_if_eq (pc := 53) (tgt := 60) dX8_takesNumber_53 (by decide) (fun h53 => ?_) (fun h53 => by exact absurd h53 (by decide))
        refine ev_iload_n_3 (pc := 60) dX8_takesNumber_60 ?_
        refine ev_if_eq (pc := 61) (tgt := 69) dX8_takesNumber_61 (by decide) (fun h61 => ?_) (fun h61 => by exact absurd h61 (by decide))
        refine ev_iconst (pc := 69) (v := 0) dX8_takesNumber_69 (by decide) ?_
        exact ev_ireturn (pc := 70) dX8_takesNumber_70 rfl rfl (⟨rfl, rfl⟩)
      · skip
        exact absurd ⟨h4, (num_ok hT hl).mp ⟨h12, Decidable.not_not.mp (fun z => h24 (bI_f z))⟩⟩ hk
