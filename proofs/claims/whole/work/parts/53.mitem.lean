/-! ===== the reference: a brother, a pot ===== -/
set_option maxRecDepth 100000 in
theorem m_X8_readBrother {S : Scr} (f : Nat → Int32) (n a nb : Nat) (hb : nb < 6) (σ : Sto) (h : txT f n σ) (hR : rkS f n a 127 (6 * nb) 0 σ σ) (hnb : σ.1 117 20 = nI nb) : Mt S yX8_readBrother cX8_readBrother 3 none 4 [.ref 117] σ (fun r τ => r = none ∧ ∃ ρ, rkS f n a 127 (6 * nb) 6 σ ρ ∧ τ = wr ρ 117 20 (nI (nb + 1))) := by
  refine mt_of (ls := [.ref 117, .null, .null]) (by decide) rfl (Nat.le_of_ble_eq_true rfl) (by simp [Value.category]) ?_
  refine ev_bipush (pc := 0) (v := 6) dX8_readBrother_0 (by decide) ?_
  refine ev_aload_n_0 (pc := 2) dX8_readBrother_2 ?_
  refine ev_getI (pc := 3) dX8_readBrother_3 fl_X8_88 (by decide) (by decide) (by decide) ?_
  refine ev_imulc (pc := 6) (v := nI (6 * nb)) dX8_readBrother_6 (by rw [hnb]; exact nI_mul 6 nb) ?_
  refine ev_istore_n_1 (pc := 7) dX8_readBrother_7 (by decide) ?_
  refine ev_iconst (pc := 8) (v := 0) dX8_readBrother_8 (by decide) ?_
  refine ev_istore_n_2 (pc := 9) dX8_readBrother_9 (by decide) ?_
  refine ev_iload_n_2 (pc := 10) dX8_readBrother_10 ?_
  refine ev_iconst (pc := 11) (v := 4) dX8_readBrother_11 (by decide) ?_
  refine ev_icmp_ge (pc := 12) (tgt := 35) dX8_readBrother_12 (by decide) (fun h12 => by exact absurd h12 (by decide)) (fun h12 => ?_)
  refine ev_aload_n_0 (pc := 15) dX8_readBrother_15 ?_
  refine ev_getR (pc := 16) (r := 127) dX8_readBrother_16 fl_X8_38 (by decide) (by decide) (by decide) (by decide) ?_
  refine ev_iload_n_1 (pc := 19) dX8_readBrother_19 ?_
  refine ev_iload_n_2 (pc := 20) dX8_readBrother_20 ?_
  refine ev_iaddc (pc := 21) (v := nI (6 * nb)) dX8_readBrother_21 (nI_addz (6 * nb)) ?_
  refine ev_aload_n_0 (pc := 22) dX8_readBrother_22 ?_
  refine ev_iconst (pc := 23) (v := 0) dX8_readBrother_23 (by decide) ?_
  refine ev_iconst (pc := 24) (v := 5) dX8_readBrother_24 (by decide) ?_
  refine ev_callV (pc := 25) dX8_readBrother_25 ml_X8_91 (rk_take (f := f) (n := n) (a := a) (w := 127) (m := (6 * nb)) (k := 0) (Or.inl rfl) h hR) (by decide) ⟨_, rfl, rfl⟩ rfl (by decide) rfl (Nat.le_of_ble_eq_true rfl) ?_
  rintro r ρ ⟨v, rfl, hR'⟩
  have hR := hR'
  refine ev_iastore' (pc := 28) (j := (6 * nb)) dX8_readBrother_28 (by decide) (by decide) (show vp_in _ 36 from (vp_in_nI (by omega) (by decide))) (nI_clamp (by omega)) ?_
  refine ev_iinc_2 (pc := 29) (v := 1) dX8_readBrother_29 (by decide) (by decide) ?_
  refine ev_goto (pc := 32) (tgt := 10) dX8_readBrother_32 (by decide) ?_
  refine ev_iload_n_2 (pc := 10) dX8_readBrother_10 ?_
  refine ev_iconst (pc := 11) (v := 4) dX8_readBrother_11 (by decide) ?_
  refine ev_icmp_ge (pc := 12) (tgt := 35) dX8_readBrother_12 (by decide) (fun h12 => by exact absurd h12 (by decide)) (fun h12 => ?_)
  refine ev_aload_n_0 (pc := 15) dX8_readBrother_15 ?_
  refine ev_getR (pc := 16) (r := 127) dX8_readBrother_16 fl_X8_38 (by decide) (by decide) (by decide) (by decide) ?_
  refine ev_iload_n_1 (pc := 19) dX8_readBrother_19 ?_
  refine ev_iload_n_2 (pc := 20) dX8_readBrother_20 ?_
  refine ev_iaddc (pc := 21) (v := nI ((6 * nb) + 1)) dX8_readBrother_21 (nI_add (6 * nb) 1) ?_
  refine ev_aload_n_0 (pc := 22) dX8_readBrother_22 ?_
  refine ev_iconst (pc := 23) (v := 0) dX8_readBrother_23 (by decide) ?_
  refine ev_iconst (pc := 24) (v := 5) dX8_readBrother_24 (by decide) ?_
  refine ev_callV (pc := 25) dX8_readBrother_25 ml_X8_91 (rk_take (f := f) (n := n) (a := a) (w := 127) (m := (6 * nb)) (k := 1) (Or.inl rfl) h hR) (by decide) ⟨_, rfl, rfl⟩ rfl (by decide) rfl (Nat.le_of_ble_eq_true rfl) ?_
  rintro r ρ ⟨v, rfl, hR'⟩
  have hR := hR'
  refine ev_iastore' (pc := 28) (j := ((6 * nb) + 1)) dX8_readBrother_28 (by decide) (by decide) (show vp_in _ 36 from (vp_in_nI (by omega) (by decide))) (nI_clamp (by omega)) ?_
  refine ev_iinc_2 (pc := 29) (v := 2) dX8_readBrother_29 (by decide) (by decide) ?_
  refine ev_goto (pc := 32) (tgt := 10) dX8_readBrother_32 (by decide) ?_
  refine ev_iload_n_2 (pc := 10) dX8_readBrother_10 ?_
  refine ev_iconst (pc := 11) (v := 4) dX8_readBrother_11 (by decide) ?_
  refine ev_icmp_ge (pc := 12) (tgt := 35) dX8_readBrother_12 (by decide) (fun h12 => by exact absurd h12 (by decide)) (fun h12 => ?_)
  refine ev_aload_n_0 (pc := 15) dX8_readBrother_15 ?_
  refine ev_getR (pc := 16) (r := 127) dX8_readBrother_16 fl_X8_38 (by decide) (by decide) (by decide) (by decide) ?_
  refine ev_iload_n_1 (pc := 19) dX8_readBrother_19 ?_
  refine ev_iload_n_2 (pc := 20) dX8_readBrother_20 ?_
  refine ev_iaddc (pc := 21) (v := nI ((6 * nb) + 2)) dX8_readBrother_21 (nI_add (6 * nb) 2) ?_
  refine ev_aload_n_0 (pc := 22) dX8_readBrother_22 ?_
  refine ev_iconst (pc := 23) (v := 0) dX8_readBrother_23 (by decide) ?_
  refine ev_iconst (pc := 24) (v := 5) dX8_readBrother_24 (by decide) ?_
  refine ev_callV (pc := 25) dX8_readBrother_25 ml_X8_91 (rk_take (f := f) (n := n) (a := a) (w := 127) (m := (6 * nb)) (k := 2) (Or.inl rfl) h hR) (by decide) ⟨_, rfl, rfl⟩ rfl (by decide) rfl (Nat.le_of_ble_eq_true rfl) ?_
  rintro r ρ ⟨v, rfl, hR'⟩
  have hR := hR'
  refine ev_iastore' (pc := 28) (j := ((6 * nb) + 2)) dX8_readBrother_28 (by decide) (by decide) (show vp_in _ 36 from (vp_in_nI (by omega) (by decide))) (nI_clamp (by omega)) ?_
  refine ev_iinc_2 (pc := 29) (v := 3) dX8_readBrother_29 (by decide) (by decide) ?_
  refine ev_goto (pc := 32) (tgt := 10) dX8_readBrother_32 (by decide) ?_
  refine ev_iload_n_2 (pc := 10) dX8_readBrother_10 ?_
  refine ev_iconst (pc := 11) (v := 4) dX8_readBrother_11 (by decide) ?_
  refine ev_icmp_ge (pc := 12) (tgt := 35) dX8_readBrother_12 (by decide) (fun h12 => by exact absurd h12 (by decide)) (fun h12 => ?_)
  refine ev_aload_n_0 (pc := 15) dX8_readBrother_15 ?_
  refine ev_getR (pc := 16) (r := 127) dX8_readBrother_16 fl_X8_38 (by decide) (by decide) (by decide) (by decide) ?_
  refine ev_iload_n_1 (pc := 19) dX8_readBrother_19 ?_
  refine ev_iload_n_2 (pc := 20) dX8_readBrother_20 ?_
  refine ev_iaddc (pc := 21) (v := nI ((6 * nb) + 3)) dX8_readBrother_21 (nI_add (6 * nb) 3) ?_
  refine ev_aload_n_0 (pc := 22) dX8_readBrother_22 ?_
  refine ev_iconst (pc := 23) (v := 0) dX8_readBrother_23 (by decide) ?_
  refine ev_iconst (pc := 24) (v := 5) dX8_readBrother_24 (by decide) ?_
  refine ev_callV (pc := 25) dX8_readBrother_25 ml_X8_91 (rk_take (f := f) (n := n) (a := a) (w := 127) (m := (6 * nb)) (k := 3) (Or.inl rfl) h hR) (by decide) ⟨_, rfl, rfl⟩ rfl (by decide) rfl (Nat.le_of_ble_eq_true rfl) ?_
  rintro r ρ ⟨v, rfl, hR'⟩
  have hR := hR'
  refine ev_iastore' (pc := 28) (j := ((6 * nb) + 3)) dX8_readBrother_28 (by decide) (by decide) (show vp_in _ 36 from (vp_in_nI (by omega) (by decide))) (nI_clamp (by omega)) ?_
  refine ev_iinc_2 (pc := 29) (v := 4) dX8_readBrother_29 (by decide) (by decide) ?_
  refine ev_goto (pc := 32) (tgt := 10) dX8_readBrother_32 (by decide) ?_
  refine ev_iload_n_2 (pc := 10) dX8_readBrother_10 ?_
  refine ev_iconst (pc := 11) (v := 4) dX8_readBrother_11 (by decide) ?_
  refine ev_icmp_ge (pc := 12) (tgt := 35) dX8_readBrother_12 (by decide) (fun h12 => ?_) (fun h12 => by exact absurd h12 (by decide))
  refine ev_aload_n_0 (pc := 35) dX8_readBrother_35 ?_
  refine ev_getR (pc := 36) (r := 127) dX8_readBrother_36 fl_X8_38 (by decide) (by decide) (by decide) (by decide) ?_
  refine ev_iload_n_1 (pc := 39) dX8_readBrother_39 ?_
  refine ev_iconst (pc := 40) (v := 4) dX8_readBrother_40 (by decide) ?_
  refine ev_iaddc (pc := 41) (v := nI ((6 * nb) + 4)) dX8_readBrother_41 (nI_add (6 * nb) 4) ?_
  refine ev_aload_n_0 (pc := 42) dX8_readBrother_42 ?_
  refine ev_iconst (pc := 43) (v := 0) dX8_readBrother_43 (by decide) ?_
  refine ev_iconst (pc := 44) (v := 2) dX8_readBrother_44 (by decide) ?_
  refine ev_callV (pc := 45) dX8_readBrother_45 ml_X8_91 (rk_take (f := f) (n := n) (a := a) (w := 127) (m := (6 * nb)) (k := 4) (Or.inl rfl) h hR) (by decide) ⟨_, rfl, rfl⟩ rfl (by decide) rfl (Nat.le_of_ble_eq_true rfl) ?_
  rintro r ρ ⟨v, rfl, hR'⟩
  have hR := hR'
  refine ev_iastore' (pc := 48) (j := ((6 * nb) + 4)) dX8_readBrother_48 (by decide) (by decide) (show vp_in _ 36 from (vp_in_nI (by omega) (by decide))) (nI_clamp (by omega)) ?_
  refine ev_aload_n_0 (pc := 49) dX8_readBrother_49 ?_
  refine ev_getR (pc := 50) (r := 127) dX8_readBrother_50 fl_X8_38 (by decide) (by decide) (by decide) (by decide) ?_
  refine ev_iload_n_1 (pc := 53) dX8_readBrother_53 ?_
  refine ev_iconst (pc := 54) (v := 5) dX8_readBrother_54 (by decide) ?_
  refine ev_iaddc (pc := 55) (v := nI ((6 * nb) + 5)) dX8_readBrother_55 (nI_add (6 * nb) 5) ?_
  refine ev_aload_n_0 (pc := 56) dX8_readBrother_56 ?_
  refine ev_iconst (pc := 57) (v := 0) dX8_readBrother_57 (by decide) ?_
  refine ev_iconst (pc := 58) (v := 1) dX8_readBrother_58 (by decide) ?_
  refine ev_callV (pc := 59) dX8_readBrother_59 ml_X8_91 (rk_take (f := f) (n := n) (a := a) (w := 127) (m := (6 * nb)) (k := 5) (Or.inl rfl) h hR) (by decide) ⟨_, rfl, rfl⟩ rfl (by decide) rfl (Nat.le_of_ble_eq_true rfl) ?_
  rintro r ρ ⟨v, rfl, hR'⟩
  have hR := hR'
  refine ev_iastore' (pc := 62) (j := ((6 * nb) + 5)) dX8_readBrother_62 (by decide) (by decide) (show vp_in _ 36 from (vp_in_nI (by omega) (by decide))) (nI_clamp (by omega)) ?_
  refine ev_aload_n_0 (pc := 63) dX8_readBrother_63 ?_
  refine ev_dup (pc := 64) dX8_readBrother_64 rfl ?_
  refine ev_getI (pc := 65) dX8_readBrother_65 fl_X8_88 (by decide) (by decide) (by decide) ?_
  rw [show (wr _ 127 _ _).1 117 20 = nI nb from (hR.1.2.2 20 (by decide)).trans hnb]
  refine ev_iconst (pc := 68) (v := 1) dX8_readBrother_68 (by decide) ?_
  refine ev_iadd (pc := 69) dX8_readBrother_69 ?_
  rw [nI_s1]
  refine ev_putI (pc := 70) dX8_readBrother_70 fl_X8_88 (by decide) (by decide) (by decide) ?_
  exact ev_return (pc := 73) dX8_readBrother_73 rfl (⟨rfl, _, hR, rfl⟩)
set_option maxRecDepth 100000 in
theorem m_X8_readPot {S : Scr} (f : Nat → Int32) (n a : Nat) (σ : Sto) (h0 : txT f n σ) (hR : rkS f n a 128 0 0 (wr σ 117 22 1) (wr σ 117 22 1)) : Mt S yX8_readPot cX8_readPot 2 none 4 [.ref 117] σ (fun r τ => r = none ∧ rkS f n a 128 0 4 (wr σ 117 22 1) τ) := by
  refine mt_of (ls := [.ref 117, .null]) (by decide) rfl (Nat.le_of_ble_eq_true rfl) (by simp [Value.category]) ?_
  have h : txT f n (wr σ 117 22 1) := h0.mv (mls_w (by decide))
  refine ev_aload_n_0 (pc := 0) dX8_readPot_0 ?_
  refine ev_iconst (pc := 1) (v := 1) dX8_readPot_1 (by decide) ?_
  refine ev_putZ (pc := 2) dX8_readPot_2 fl_X8_95 (by decide) (by decide) (by decide) (by decide) ?_
  refine ev_iconst (pc := 5) (v := 0) dX8_readPot_5 (by decide) ?_
  refine ev_istore_n_1 (pc := 6) dX8_readPot_6 (by decide) ?_
  refine ev_iload_n_1 (pc := 7) dX8_readPot_7 ?_
  refine ev_iconst (pc := 8) (v := 4) dX8_readPot_8 (by decide) ?_
  refine ev_icmp_ge (pc := 9) (tgt := 30) dX8_readPot_9 (by decide) (fun h9 => by exact absurd h9 (by decide)) (fun h9 => ?_)
  refine ev_aload_n_0 (pc := 12) dX8_readPot_12 ?_
  refine ev_getR (pc := 13) (r := 128) dX8_readPot_13 fl_X8_41 (by decide) (by decide) (by decide) (by decide) ?_
  refine ev_iload_n_1 (pc := 16) dX8_readPot_16 ?_
  refine ev_aload_n_0 (pc := 17) dX8_readPot_17 ?_
  refine ev_iconst (pc := 18) (v := 0) dX8_readPot_18 (by decide) ?_
  refine ev_iconst (pc := 19) (v := 5) dX8_readPot_19 (by decide) ?_
  refine ev_callV (pc := 20) dX8_readPot_20 ml_X8_91 (rk_take (f := f) (n := n) (a := a) (w := 128) (m := 0) (k := 0) (Or.inr rfl) h hR) (by decide) ⟨_, rfl, rfl⟩ rfl (by decide) rfl (Nat.le_of_ble_eq_true rfl) ?_
  rintro r ρ ⟨v, rfl, hR'⟩
  have hR := hR'
  refine ev_iastore' (pc := 23) (j := 0) dX8_readPot_23 (by decide) (by decide) (show vp_in _ 4 from (vin_c (by decide))) (by decide) ?_
  refine ev_iinc_1 (pc := 24) (v := 1) dX8_readPot_24 (by decide) (by decide) ?_
  refine ev_goto (pc := 27) (tgt := 7) dX8_readPot_27 (by decide) ?_
  refine ev_iload_n_1 (pc := 7) dX8_readPot_7 ?_
  refine ev_iconst (pc := 8) (v := 4) dX8_readPot_8 (by decide) ?_
  refine ev_icmp_ge (pc := 9) (tgt := 30) dX8_readPot_9 (by decide) (fun h9 => by exact absurd h9 (by decide)) (fun h9 => ?_)
  refine ev_aload_n_0 (pc := 12) dX8_readPot_12 ?_
  refine ev_getR (pc := 13) (r := 128) dX8_readPot_13 fl_X8_41 (by decide) (by decide) (by decide) (by decide) ?_
  refine ev_iload_n_1 (pc := 16) dX8_readPot_16 ?_
  refine ev_aload_n_0 (pc := 17) dX8_readPot_17 ?_
  refine ev_iconst (pc := 18) (v := 0) dX8_readPot_18 (by decide) ?_
  refine ev_iconst (pc := 19) (v := 5) dX8_readPot_19 (by decide) ?_
  refine ev_callV (pc := 20) dX8_readPot_20 ml_X8_91 (rk_take (f := f) (n := n) (a := a) (w := 128) (m := 0) (k := 1) (Or.inr rfl) h hR) (by decide) ⟨_, rfl, rfl⟩ rfl (by decide) rfl (Nat.le_of_ble_eq_true rfl) ?_
  rintro r ρ ⟨v, rfl, hR'⟩
  have hR := hR'
  refine ev_iastore' (pc := 23) (j := 1) dX8_readPot_23 (by decide) (by decide) (show vp_in _ 4 from (vin_c (by decide))) (by decide) ?_
  refine ev_iinc_1 (pc := 24) (v := 2) dX8_readPot_24 (by decide) (by decide) ?_
  refine ev_goto (pc := 27) (tgt := 7) dX8_readPot_27 (by decide) ?_
  refine ev_iload_n_1 (pc := 7) dX8_readPot_7 ?_
  refine ev_iconst (pc := 8) (v := 4) dX8_readPot_8 (by decide) ?_
  refine ev_icmp_ge (pc := 9) (tgt := 30) dX8_readPot_9 (by decide) (fun h9 => by exact absurd h9 (by decide)) (fun h9 => ?_)
  refine ev_aload_n_0 (pc := 12) dX8_readPot_12 ?_
  refine ev_getR (pc := 13) (r := 128) dX8_readPot_13 fl_X8_41 (by decide) (by decide) (by decide) (by decide) ?_
  refine ev_iload_n_1 (pc := 16) dX8_readPot_16 ?_
  refine ev_aload_n_0 (pc := 17) dX8_readPot_17 ?_
  refine ev_iconst (pc := 18) (v := 0) dX8_readPot_18 (by decide) ?_
  refine ev_iconst (pc := 19) (v := 5) dX8_readPot_19 (by decide) ?_
  refine ev_callV (pc := 20) dX8_readPot_20 ml_X8_91 (rk_take (f := f) (n := n) (a := a) (w := 128) (m := 0) (k := 2) (Or.inr rfl) h hR) (by decide) ⟨_, rfl, rfl⟩ rfl (by decide) rfl (Nat.le_of_ble_eq_true rfl) ?_
  rintro r ρ ⟨v, rfl, hR'⟩
  have hR := hR'
  refine ev_iastore' (pc := 23) (j := 2) dX8_readPot_23 (by decide) (by decide) (show vp_in _ 4 from (vin_c (by decide))) (by decide) ?_
  refine ev_iinc_1 (pc := 24) (v := 3) dX8_readPot_24 (by decide) (by decide) ?_
  refine ev_goto (pc := 27) (tgt := 7) dX8_readPot_27 (by decide) ?_
  refine ev_iload_n_1 (pc := 7) dX8_readPot_7 ?_
  refine ev_iconst (pc := 8) (v := 4) dX8_readPot_8 (by decide) ?_
  refine ev_icmp_ge (pc := 9) (tgt := 30) dX8_readPot_9 (by decide) (fun h9 => by exact absurd h9 (by decide)) (fun h9 => ?_)
  refine ev_aload_n_0 (pc := 12) dX8_readPot_12 ?_
  refine ev_getR (pc := 13) (r := 128) dX8_readPot_13 fl_X8_41 (by decide) (by decide) (by decide) (by decide) ?_
  refine ev_iload_n_1 (pc := 16) dX8_readPot_16 ?_
  refine ev_aload_n_0 (pc := 17) dX8_readPot_17 ?_
  refine ev_iconst (pc := 18) (v := 0) dX8_readPot_18 (by decide) ?_
  refine ev_iconst (pc := 19) (v := 5) dX8_readPot_19 (by decide) ?_
  refine ev_callV (pc := 20) dX8_readPot_20 ml_X8_91 (rk_take (f := f) (n := n) (a := a) (w := 128) (m := 0) (k := 3) (Or.inr rfl) h hR) (by decide) ⟨_, rfl, rfl⟩ rfl (by decide) rfl (Nat.le_of_ble_eq_true rfl) ?_
  rintro r ρ ⟨v, rfl, hR'⟩
  have hR := hR'
  refine ev_iastore' (pc := 23) (j := 3) dX8_readPot_23 (by decide) (by decide) (show vp_in _ 4 from (vin_c (by decide))) (by decide) ?_
  refine ev_iinc_1 (pc := 24) (v := 4) dX8_readPot_24 (by decide) (by decide) ?_
  refine ev_goto (pc := 27) (tgt := 7) dX8_readPot_27 (by decide) ?_
  refine ev_iload_n_1 (pc := 7) dX8_readPot_7 ?_
  refine ev_iconst (pc := 8) (v := 4) dX8_readPot_8 (by decide) ?_
  refine ev_icmp_ge (pc := 9) (tgt := 30) dX8_readPot_9 (by decide) (fun h9 => ?_) (fun h9 => by exact absurd h9 (by decide))
  exact ev_return (pc := 30) dX8_readPot_30 rfl (⟨rfl, hR⟩)
