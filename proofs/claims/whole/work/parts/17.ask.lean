/-! ===== what to ask the stranger ===== -/
def fsS (d : Nat) (τ : Sto) : Sto := flW (chgW (cp0 τ 40 (105 + d) 4) (105 + d) (nI d)) (111 + d) 0 9
def fsW (σ : Sto) : Sto := itN fsS 6 σ
set_option maxRecDepth 100000 in
theorem b_X4_foresee {S : Scr} (d : Nat) (hd : d < 6) (σ : Sto) {Q : Option Value → Sto → Prop} (K : Ev S RX4 cX4_foresee 3 none 2 2 [.ref 13, .ref 40, .int (nI (d + 1))] [] (fsS d σ) (Q)) : Ev S RX4 cX4_foresee 3 none 2 2 [.ref 13, .ref 40, .int (nI d)] [] σ (Q) := by
  refine ev_iload_n_2 (pc := 2) dX4_foresee_2 ?_
  refine ev_iconst (pc := 3) (v := 5) dX4_foresee_3 (by decide) ?_
  refine ev_icmp_gt (pc := 4) (tgt := 46) dX4_foresee_4 (by decide) (fun h4 => by exact absurd h4 (nI_nlt (a := 5) (b := d) (by omega) (by decide))) (fun h4 => ?_)
  refine ev_aload_n_1 (pc := 7) dX4_foresee_7 ?_
  refine ev_iconst (pc := 8) (v := 0) dX4_foresee_8 (by decide) ?_
  refine ev_aload_n_0 (pc := 9) dX4_foresee_9 ?_
  refine ev_getR (pc := 10) (r := 16) dX4_foresee_10 fl_X4_27 (by decide) (by decide) (by decide) (by decide) ?_
  refine ev_iload_n_2 (pc := 13) dX4_foresee_13 ?_
  refine ev_aaload' (pc := 14) (r := (105 + d)) (j := d) dX4_foresee_14 (by decide) (c := 12) (by decide) (by decide) (by decide) (show vp_in _ 6 from (vp_in_nI (by omega) (by decide))) (nI_clamp (by omega)) (rf16 d) ?_
  refine ev_iconst (pc := 15) (v := 0) dX4_foresee_15 (by decide) ?_
  refine ev_iconst (pc := 16) (v := 4) dX4_foresee_16 (by decide) ?_
  refine ev_copy0 (pc := 17) (n' := 4) dX4_foresee_17 ml_X4_37 (by decide) (Nat.le_of_ble_eq_true rfl) (by decide) (isA_aft hd).1 (by decide) (isA_aft hd).2.1 (by decide) (by decide) (by decide) (by rw [(isA_aft hd).2.2]; decide) ?_
  refine ev_aload_n_0 (pc := 20) dX4_foresee_20 ?_
  refine ev_getR (pc := 21) (r := 16) dX4_foresee_21 fl_X4_27 (by decide) (by decide) (by decide) (by decide) ?_
  refine ev_iload_n_2 (pc := 24) dX4_foresee_24 ?_
  refine ev_aaload' (pc := 25) (r := (105 + d)) (j := d) dX4_foresee_25 (by decide) (c := 12) (by decide) (by decide) (by decide) (show vp_in _ 6 from (vp_in_nI (by omega) (by decide))) (nI_clamp (by omega)) (rf16 d) ?_
  refine ev_iload_n_2 (pc := 26) dX4_foresee_26 ?_
  refine ev_callN0 (pc := 27) dX4_foresee_27 mn_X4_87 (m_X7_change (isA_aft hd) _ _) rfl (by decide) rfl (Nat.le_of_ble_eq_true rfl) ?_
  refine ev_aload_n_0 (pc := 30) dX4_foresee_30 ?_
  refine ev_getR (pc := 31) (r := 17) dX4_foresee_31 fl_X4_30 (by decide) (by decide) (by decide) (by decide) ?_
  refine ev_iload_n_2 (pc := 34) dX4_foresee_34 ?_
  refine ev_aaload' (pc := 35) (r := (111 + d)) (j := d) dX4_foresee_35 (by decide) (c := 12) (by decide) (by decide) (by decide) (show vp_in _ 6 from (vp_in_nI (by omega) (by decide))) (nI_clamp (by omega)) (rf17 d) ?_
  refine ev_iconst (pc := 36) (v := 0) dX4_foresee_36 (by decide) ?_
  refine ev_callS0 (pc := 37) dX4_foresee_37 ml_X4_91 (m_J_fill (isA_tal hd) (by decide) _ _) rfl (by decide) rfl (Nat.le_of_ble_eq_true rfl) ?_
  refine ev_iinc_2 (pc := 40) (v := nI (d + 1)) dX4_foresee_40 (nI_inc d) (by decide) ?_
  refine ev_goto (pc := 43) (tgt := 2) dX4_foresee_43 (by decide) ?_
  exact K
theorem m_X4_foresee {S : Scr}  (σ : Sto) : Mt S yX4_foresee cX4_foresee 3 none 2 [.ref 13, .ref 40] σ (Is none (fsW σ)) := by
  refine mt_of (ls := [.ref 13, .ref 40, .null]) (by decide) rfl (Nat.le_of_ble_eq_true rfl) (by simp [Value.category]) ?_
  refine ev_iconst (pc := 0) (v := 0) dX4_foresee_0 (by decide) ?_
  refine ev_istore_n_2 (pc := 1) dX4_foresee_1 (by decide) ?_
  refine for_up 6 (fun i τ => Ev S RX4 cX4_foresee 3 none 2 2 [.ref 13, .ref 40, .int (nI i)] [] τ (Is none (fsW σ))) fsS (fun i τ hi K => b_X4_foresee i hi τ K) σ ?_
  refine ev_iload_n_2 (pc := 2) dX4_foresee_2 ?_
  refine ev_iconst (pc := 3) (v := 5) dX4_foresee_3 (by decide) ?_
  refine ev_icmp_gt (pc := 4) (tgt := 46) dX4_foresee_4 (by decide) (fun h4 => ?_) (fun h4 => by exact absurd h4 (by decide))
  exact ev_return (pc := 46) dX4_foresee_46 rfl (⟨rfl, rfl⟩)
theorem mnS_r (l pot : Nat → Int32) (c : Int32) (i : Nat) (hi : i < 4) (a : Int32 × Int32) (h : ∃ m, m < 9 ∧ a.2 = nI m) : ∃ m, m < 9 ∧ (mnS l pot c i a).2 = nI m := by
  unfold mnS
  by_cases h1 : ab (offD l pot c i) ≤ a.1
  · rw [if_pos h1]; exact h
  · rw [if_neg h1]
    have key : ∀ i, i < 4 → (2 * nI i + 2 = nI (2 * i + 2)) ∧ (2 * nI i + 1 = nI (2 * i + 1)) := by decide +kernel
    by_cases h2 : offD l pot c i ≤ 0
    · exact ⟨2 * i + 2, by omega, by simp only [h2, if_true]; exact (key i hi).1⟩
    · exact ⟨2 * i + 1, by omega, by simp only [h2, if_false]; exact (key i hi).2⟩
theorem mienD_r (l : Nat → Int32) (bl : Int32) (pot : Nat → Int32) (c : Int32) : ∃ m, m < 9 ∧ mienD l bl pot c = nI m :=
  mnS_r l pot c 3 (by decide) _ (mnS_r l pot c 2 (by decide) _ (mnS_r l pot c 1 (by decide) _ (mnS_r l pot c 0 (by decide) _ ⟨0, by decide, rfl⟩)))
theorem mien_vin (l : Nat → Int32) (bl : Int32) (pot : Nat → Int32) (c : Int32) : vp_in (mienD l bl pot c) 9 := by
  obtain ⟨m, h, e⟩ := mienD_r l bl pot c
  rw [e]; exact vp_in_nI h (by decide)
abbrev tgM (d : Nat) (τ : Sto) : Nat := (mienD (τ.1 38) (τ.1 37 1) (τ.1 (105 + d)) 0).toNatClampNeg
def tgS (d : Nat) (τ : Sto) : Sto := wr τ (111 + d) (tgM d τ) (τ.1 (111 + d) (tgM d τ) + 1)
def tgW (σ : Sto) : Sto := itN tgS 6 σ
set_option maxRecDepth 100000 in
theorem b_X4_tallyGuess {S : Scr} (d : Nat) (hd : d < 6) (σ : Sto) {Q : Option Value → Sto → Prop} (K : Ev S RX4 cX4_tallyGuess 2 none 2 2 [.ref 13, .int (nI (d + 1))] [] (tgS d σ) (Q)) : Ev S RX4 cX4_tallyGuess 2 none 2 2 [.ref 13, .int (nI d)] [] σ (Q) := by
  refine ev_iload_n_1 (pc := 2) dX4_tallyGuess_2 ?_
  refine ev_iconst (pc := 3) (v := 5) dX4_tallyGuess_3 (by decide) ?_
  refine ev_icmp_gt (pc := 4) (tgt := 38) dX4_tallyGuess_4 (by decide) (fun h4 => by exact absurd h4 (nI_nlt (a := 5) (b := d) (by omega) (by decide))) (fun h4 => ?_)
  refine ev_aload_n_0 (pc := 7) dX4_tallyGuess_7 ?_
  refine ev_getR (pc := 8) (r := 17) dX4_tallyGuess_8 fl_X4_30 (by decide) (by decide) (by decide) (by decide) ?_
  refine ev_iload_n_1 (pc := 11) dX4_tallyGuess_11 ?_
  refine ev_aaload' (pc := 12) (r := (111 + d)) (j := d) dX4_tallyGuess_12 (by decide) (c := 12) (by decide) (by decide) (by decide) (show vp_in _ 6 from (vp_in_nI (by omega) (by decide))) (nI_clamp (by omega)) (rf17 d) ?_
  refine ev_aload_n_0 (pc := 13) dX4_tallyGuess_13 ?_
  refine ev_getR (pc := 14) (r := 37) dX4_tallyGuess_14 fl_X4_23 (by decide) (by decide) (by decide) (by decide) ?_
  refine ev_aload_n_0 (pc := 17) dX4_tallyGuess_17 ?_
  refine ev_getR (pc := 18) (r := 16) dX4_tallyGuess_18 fl_X4_27 (by decide) (by decide) (by decide) (by decide) ?_
  refine ev_iload_n_1 (pc := 21) dX4_tallyGuess_21 ?_
  refine ev_aaload' (pc := 22) (r := (105 + d)) (j := d) dX4_tallyGuess_22 (by decide) (c := 12) (by decide) (by decide) (by decide) (show vp_in _ 6 from (vp_in_nI (by omega) (by decide))) (nI_clamp (by omega)) (rf16 d) ?_
  refine ev_iconst (pc := 23) (v := 0) dX4_tallyGuess_23 (by decide) ?_
  refine ev_callV1 (pc := 24) dX4_tallyGuess_24 ml_X4_50 (m_X5_mien isTa_37 (isA_aft hd) 0 _) (by decide) ⟨_, rfl, rfl⟩ rfl (by decide) rfl (Nat.le_of_ble_eq_true rfl) ?_
  refine ev_dup2 (pc := 27) dX4_tallyGuess_27 rfl rfl ?_
  refine ev_iaload' (pc := 28) (j := _) dX4_tallyGuess_28 (isA_tal hd).1 (isA_tal hd).2.1 (by rw [(isA_tal hd).2.2]; exact (mien_vin _ _ _ _)) rfl ?_
  refine ev_iconst (pc := 29) (v := 1) dX4_tallyGuess_29 (by decide) ?_
  refine ev_iadd (pc := 30) dX4_tallyGuess_30 ?_
  refine ev_iastore' (pc := 31) (j := _) dX4_tallyGuess_31 (isA_tal hd).1 (isA_tal hd).2.1 (by rw [(isA_tal hd).2.2]; exact (mien_vin _ _ _ _)) rfl ?_
  refine ev_iinc_1 (pc := 32) (v := nI (d + 1)) dX4_tallyGuess_32 (nI_inc d) (by decide) ?_
  refine ev_goto (pc := 35) (tgt := 2) dX4_tallyGuess_35 (by decide) ?_
  exact K
theorem m_X4_tallyGuess {S : Scr}  (σ : Sto) : Mt S yX4_tallyGuess cX4_tallyGuess 2 none 2 [.ref 13] σ (Is none (tgW σ)) := by
  refine mt_of (ls := [.ref 13, .null]) (by decide) rfl (Nat.le_of_ble_eq_true rfl) (by simp [Value.category]) ?_
  refine ev_iconst (pc := 0) (v := 0) dX4_tallyGuess_0 (by decide) ?_
  refine ev_istore_n_1 (pc := 1) dX4_tallyGuess_1 (by decide) ?_
  refine for_up 6 (fun i τ => Ev S RX4 cX4_tallyGuess 2 none 2 2 [.ref 13, .int (nI i)] [] τ (Is none (tgW σ))) tgS (fun i τ hi K => b_X4_tallyGuess i hi τ K) σ ?_
  refine ev_iload_n_1 (pc := 2) dX4_tallyGuess_2 ?_
  refine ev_iconst (pc := 3) (v := 5) dX4_tallyGuess_3 (by decide) ?_
  refine ev_icmp_gt (pc := 4) (tgt := 38) dX4_tallyGuess_4 (by decide) (fun h4 => ?_) (fun h4 => by exact absurd h4 (by decide))
  exact ev_return (pc := 38) dX4_tallyGuess_38 rfl (⟨rfl, rfl⟩)
abbrev gm (f : Nat → Int32) : Int32 := itN (fun i a => mxI a (f i)) 9 0
set_option maxRecDepth 100000 in
theorem m_X4_greatestOf {S : Scr} {a : Nat} (ha : IsA a 9) (σ : Sto) : Mt S yX4_greatestOf cX4_greatestOf 6 (some .int) 1 [.ref a] σ (Is (some (.int (gm (σ.1 a)))) σ) := by
  refine mt_of (ls := [.ref a, .null, .null, .null, .null, .null]) (by decide) rfl (Nat.le_of_ble_eq_true rfl) (by simp [Value.category]) ?_
  refine ev_iconst (pc := 0) (v := 0) dX4_greatestOf_0 (by decide) ?_
  refine ev_istore_n_1 (pc := 1) dX4_greatestOf_1 (by decide) ?_
  refine ev_aload_n_0 (pc := 2) dX4_greatestOf_2 ?_
  refine ev_astore_n_2 (pc := 3) dX4_greatestOf_3 (by decide) ?_
  refine ev_aload_n_2 (pc := 4) dX4_greatestOf_4 ?_
  refine ev_arraylength (pc := 5) (v := 9) dX4_greatestOf_5 ha.1 (c := 10) ha.2.1 (by decide) (by rw [ha.2.2]; decide) ?_
  refine ev_istore_n_3 (pc := 6) dX4_greatestOf_6 (by decide) ?_
  refine ev_iconst (pc := 7) (v := 0) dX4_greatestOf_7 (by decide) ?_
  refine ev_istore_4 (pc := 8) dX4_greatestOf_8 (by decide) ?_
  refine ev_iload_4 (pc := 10) dX4_greatestOf_10 ?_
  refine ev_iload_n_3 (pc := 12) dX4_greatestOf_12 ?_
  refine ev_icmp_ge (pc := 13) (tgt := 35) dX4_greatestOf_13 (by decide) (fun h13 => by exact absurd h13 (by decide)) (fun h13 => ?_)
  refine ev_aload_n_2 (pc := 16) dX4_greatestOf_16 ?_
  refine ev_iload_4 (pc := 17) dX4_greatestOf_17 ?_
  refine ev_iaload' (pc := 19) (j := 0) dX4_greatestOf_19 ha.1 ha.2.1 (by rw [ha.2.2]; exact (vin_c (by decide))) (by decide) ?_
  refine ev_istore_5 (pc := 20) dX4_greatestOf_20 (by decide) ?_
  refine ev_iload_n_1 (pc := 22) dX4_greatestOf_22 ?_
  refine ev_iload_5 (pc := 23) dX4_greatestOf_23 ?_
  refine ev_mmax' (pc := 25) dX4_greatestOf_25 ml_X4_73 (by decide) (Nat.le_of_ble_eq_true rfl) ?_
  refine ev_istore_n_1 (pc := 28) dX4_greatestOf_28 (by decide) ?_
  refine ev_iinc_4 (pc := 29) (v := 1) dX4_greatestOf_29 (by decide) (by decide) ?_
  refine ev_goto (pc := 32) (tgt := 10) dX4_greatestOf_32 (by decide) ?_
  refine ev_iload_4 (pc := 10) dX4_greatestOf_10 ?_
  refine ev_iload_n_3 (pc := 12) dX4_greatestOf_12 ?_
  refine ev_icmp_ge (pc := 13) (tgt := 35) dX4_greatestOf_13 (by decide) (fun h13 => by exact absurd h13 (by decide)) (fun h13 => ?_)
  refine ev_aload_n_2 (pc := 16) dX4_greatestOf_16 ?_
  refine ev_iload_4 (pc := 17) dX4_greatestOf_17 ?_
  refine ev_iaload' (pc := 19) (j := 1) dX4_greatestOf_19 ha.1 ha.2.1 (by rw [ha.2.2]; exact (vin_c (by decide))) (by decide) ?_
  refine ev_istore_5 (pc := 20) dX4_greatestOf_20 (by decide) ?_
  refine ev_iload_n_1 (pc := 22) dX4_greatestOf_22 ?_
  refine ev_iload_5 (pc := 23) dX4_greatestOf_23 ?_
  refine ev_mmax' (pc := 25) dX4_greatestOf_25 ml_X4_73 (by decide) (Nat.le_of_ble_eq_true rfl) ?_
  refine ev_istore_n_1 (pc := 28) dX4_greatestOf_28 (by decide) ?_
  refine ev_iinc_4 (pc := 29) (v := 2) dX4_greatestOf_29 (by decide) (by decide) ?_
  refine ev_goto (pc := 32) (tgt := 10) dX4_greatestOf_32 (by decide) ?_
  refine ev_iload_4 (pc := 10) dX4_greatestOf_10 ?_
  refine ev_iload_n_3 (pc := 12) dX4_greatestOf_12 ?_
  refine ev_icmp_ge (pc := 13) (tgt := 35) dX4_greatestOf_13 (by decide) (fun h13 => by exact absurd h13 (by decide)) (fun h13 => ?_)
  refine ev_aload_n_2 (pc := 16) dX4_greatestOf_16 ?_
  refine ev_iload_4 (pc := 17) dX4_greatestOf_17 ?_
  refine ev_iaload' (pc := 19) (j := 2) dX4_greatestOf_19 ha.1 ha.2.1 (by rw [ha.2.2]; exact (vin_c (by decide))) (by decide) ?_
  refine ev_istore_5 (pc := 20) dX4_greatestOf_20 (by decide) ?_
  refine ev_iload_n_1 (pc := 22) dX4_greatestOf_22 ?_
  refine ev_iload_5 (pc := 23) dX4_greatestOf_23 ?_
  refine ev_mmax' (pc := 25) dX4_greatestOf_25 ml_X4_73 (by decide) (Nat.le_of_ble_eq_true rfl) ?_
  refine ev_istore_n_1 (pc := 28) dX4_greatestOf_28 (by decide) ?_
  refine ev_iinc_4 (pc := 29) (v := 3) dX4_greatestOf_29 (by decide) (by decide) ?_
  refine ev_goto (pc := 32) (tgt := 10) dX4_greatestOf_32 (by decide) ?_
  refine ev_iload_4 (pc := 10) dX4_greatestOf_10 ?_
  refine ev_iload_n_3 (pc := 12) dX4_greatestOf_12 ?_
  refine ev_icmp_ge (pc := 13) (tgt := 35) dX4_greatestOf_13 (by decide) (fun h13 => by exact absurd h13 (by decide)) (fun h13 => ?_)
  refine ev_aload_n_2 (pc := 16) dX4_greatestOf_16 ?_
  refine ev_iload_4 (pc := 17) dX4_greatestOf_17 ?_
  refine ev_iaload' (pc := 19) (j := 3) dX4_greatestOf_19 ha.1 ha.2.1 (by rw [ha.2.2]; exact (vin_c (by decide))) (by decide) ?_
  refine ev_istore_5 (pc := 20) dX4_greatestOf_20 (by decide) ?_
  refine ev_iload_n_1 (pc := 22) dX4_greatestOf_22 ?_
  refine ev_iload_5 (pc := 23) dX4_greatestOf_23 ?_
  refine ev_mmax' (pc := 25) dX4_greatestOf_25 ml_X4_73 (by decide) (Nat.le_of_ble_eq_true rfl) ?_
  refine ev_istore_n_1 (pc := 28) dX4_greatestOf_28 (by decide) ?_
  refine ev_iinc_4 (pc := 29) (v := 4) dX4_greatestOf_29 (by decide) (by decide) ?_
  refine ev_goto (pc := 32) (tgt := 10) dX4_greatestOf_32 (by decide) ?_
  refine ev_iload_4 (pc := 10) dX4_greatestOf_10 ?_
  refine ev_iload_n_3 (pc := 12) dX4_greatestOf_12 ?_
  refine ev_icmp_ge (pc := 13) (tgt := 35) dX4_greatestOf_13 (by decide) (fun h13 => by exact absurd h13 (by decide)) (fun h13 => ?_)
  refine ev_aload_n_2 (pc := 16) dX4_greatestOf_16 ?_
  refine ev_iload_4 (pc := 17) dX4_greatestOf_17 ?_
  refine ev_iaload' (pc := 19) (j := 4) dX4_greatestOf_19 ha.1 ha.2.1 (by rw [ha.2.2]; exact (vin_c (by decide))) (by decide) ?_
  refine ev_istore_5 (pc := 20) dX4_greatestOf_20 (by decide) ?_
  refine ev_iload_n_1 (pc := 22) dX4_greatestOf_22 ?_
  refine ev_iload_5 (pc := 23) dX4_greatestOf_23 ?_
  refine ev_mmax' (pc := 25) dX4_greatestOf_25 ml_X4_73 (by decide) (Nat.le_of_ble_eq_true rfl) ?_
  refine ev_istore_n_1 (pc := 28) dX4_greatestOf_28 (by decide) ?_
  refine ev_iinc_4 (pc := 29) (v := 5) dX4_greatestOf_29 (by decide) (by decide) ?_
  refine ev_goto (pc := 32) (tgt := 10) dX4_greatestOf_32 (by decide) ?_
  refine ev_iload_4 (pc := 10) dX4_greatestOf_10 ?_
  refine ev_iload_n_3 (pc := 12) dX4_greatestOf_12 ?_
  refine ev_icmp_ge (pc := 13) (tgt := 35) dX4_greatestOf_13 (by decide) (fun h13 => by exact absurd h13 (by decide)) (fun h13 => ?_)
  refine ev_aload_n_2 (pc := 16) dX4_greatestOf_16 ?_
  refine ev_iload_4 (pc := 17) dX4_greatestOf_17 ?_
  refine ev_iaload' (pc := 19) (j := 5) dX4_greatestOf_19 ha.1 ha.2.1 (by rw [ha.2.2]; exact (vin_c (by decide))) (by decide) ?_
  refine ev_istore_5 (pc := 20) dX4_greatestOf_20 (by decide) ?_
  refine ev_iload_n_1 (pc := 22) dX4_greatestOf_22 ?_
  refine ev_iload_5 (pc := 23) dX4_greatestOf_23 ?_
  refine ev_mmax' (pc := 25) dX4_greatestOf_25 ml_X4_73 (by decide) (Nat.le_of_ble_eq_true rfl) ?_
  refine ev_istore_n_1 (pc := 28) dX4_greatestOf_28 (by decide) ?_
  refine ev_iinc_4 (pc := 29) (v := 6) dX4_greatestOf_29 (by decide) (by decide) ?_
  refine ev_goto (pc := 32) (tgt := 10) dX4_greatestOf_32 (by decide) ?_
  refine ev_iload_4 (pc := 10) dX4_greatestOf_10 ?_
  refine ev_iload_n_3 (pc := 12) dX4_greatestOf_12 ?_
  refine ev_icmp_ge (pc := 13) (tgt := 35) dX4_greatestOf_13 (by decide) (fun h13 => by exact absurd h13 (by decide)) (fun h13 => ?_)
  refine ev_aload_n_2 (pc := 16) dX4_greatestOf_16 ?_
  refine ev_iload_4 (pc := 17) dX4_greatestOf_17 ?_
  refine ev_iaload' (pc := 19) (j := 6) dX4_greatestOf_19 ha.1 ha.2.1 (by rw [ha.2.2]; exact (vin_c (by decide))) (by decide) ?_
  refine ev_istore_5 (pc := 20) dX4_greatestOf_20 (by decide) ?_
  refine ev_iload_n_1 (pc := 22) dX4_greatestOf_22 ?_
  refine ev_iload_5 (pc := 23) dX4_greatestOf_23 ?_
  refine ev_mmax' (pc := 25) dX4_greatestOf_25 ml_X4_73 (by decide) (Nat.le_of_ble_eq_true rfl) ?_
  refine ev_istore_n_1 (pc := 28) dX4_greatestOf_28 (by decide) ?_
  refine ev_iinc_4 (pc := 29) (v := 7) dX4_greatestOf_29 (by decide) (by decide) ?_
  refine ev_goto (pc := 32) (tgt := 10) dX4_greatestOf_32 (by decide) ?_
  refine ev_iload_4 (pc := 10) dX4_greatestOf_10 ?_
  refine ev_iload_n_3 (pc := 12) dX4_greatestOf_12 ?_
  refine ev_icmp_ge (pc := 13) (tgt := 35) dX4_greatestOf_13 (by decide) (fun h13 => by exact absurd h13 (by decide)) (fun h13 => ?_)
  refine ev_aload_n_2 (pc := 16) dX4_greatestOf_16 ?_
  refine ev_iload_4 (pc := 17) dX4_greatestOf_17 ?_
  refine ev_iaload' (pc := 19) (j := 7) dX4_greatestOf_19 ha.1 ha.2.1 (by rw [ha.2.2]; exact (vin_c (by decide))) (by decide) ?_
  refine ev_istore_5 (pc := 20) dX4_greatestOf_20 (by decide) ?_
  refine ev_iload_n_1 (pc := 22) dX4_greatestOf_22 ?_
  refine ev_iload_5 (pc := 23) dX4_greatestOf_23 ?_
  refine ev_mmax' (pc := 25) dX4_greatestOf_25 ml_X4_73 (by decide) (Nat.le_of_ble_eq_true rfl) ?_
  refine ev_istore_n_1 (pc := 28) dX4_greatestOf_28 (by decide) ?_
  refine ev_iinc_4 (pc := 29) (v := 8) dX4_greatestOf_29 (by decide) (by decide) ?_
  refine ev_goto (pc := 32) (tgt := 10) dX4_greatestOf_32 (by decide) ?_
  refine ev_iload_4 (pc := 10) dX4_greatestOf_10 ?_
  refine ev_iload_n_3 (pc := 12) dX4_greatestOf_12 ?_
  refine ev_icmp_ge (pc := 13) (tgt := 35) dX4_greatestOf_13 (by decide) (fun h13 => by exact absurd h13 (by decide)) (fun h13 => ?_)
  refine ev_aload_n_2 (pc := 16) dX4_greatestOf_16 ?_
  refine ev_iload_4 (pc := 17) dX4_greatestOf_17 ?_
  refine ev_iaload' (pc := 19) (j := 8) dX4_greatestOf_19 ha.1 ha.2.1 (by rw [ha.2.2]; exact (vin_c (by decide))) (by decide) ?_
  refine ev_istore_5 (pc := 20) dX4_greatestOf_20 (by decide) ?_
  refine ev_iload_n_1 (pc := 22) dX4_greatestOf_22 ?_
  refine ev_iload_5 (pc := 23) dX4_greatestOf_23 ?_
  refine ev_mmax' (pc := 25) dX4_greatestOf_25 ml_X4_73 (by decide) (Nat.le_of_ble_eq_true rfl) ?_
  refine ev_istore_n_1 (pc := 28) dX4_greatestOf_28 (by decide) ?_
  refine ev_iinc_4 (pc := 29) (v := 9) dX4_greatestOf_29 (by decide) (by decide) ?_
  refine ev_goto (pc := 32) (tgt := 10) dX4_greatestOf_32 (by decide) ?_
  refine ev_iload_4 (pc := 10) dX4_greatestOf_10 ?_
  refine ev_iload_n_3 (pc := 12) dX4_greatestOf_12 ?_
  refine ev_icmp_ge (pc := 13) (tgt := 35) dX4_greatestOf_13 (by decide) (fun h13 => ?_) (fun h13 => by exact absurd h13 (by decide))
  refine ev_iload_n_1 (pc := 35) dX4_greatestOf_35 ?_
  exact ev_ireturn (pc := 36) dX4_greatestOf_36 rfl rfl (⟨rfl, rfl⟩)
abbrev mtS (g : Nat → Int32) (i a : Nat) : Nat := if g a ≤ g (i + 1) then a else i + 1
def mtB (g : Nat → Int32) : Nat := itN (mtS g) 5 0
theorem mtB_lt (g : Nat → Int32) : ∀ k, k ≤ 5 → itN (mtS g) k 0 < 6 := by
  intro k
  induction k with
  | zero => intro _; show 0 < 6; decide
  | succ k ih => intro h; rw [itN]; unfold mtS; have := ih (by omega); split <;> omega
set_option maxRecDepth 100000 in
theorem b_X4_mostTelling {S : Scr} (i : Nat) (hi : i < 5) (a : Nat) (ha : a < 6) (σ : Sto) {Q : Option Value → Sto → Prop} (K : Ev S RX4 cX4_mostTelling 3 (some .int) 2 4 [.ref 13, .int (nI (mtS (fun d => gm (σ.1 (111 + d))) i a)), .int (nI (i + 1 + 1))] [] σ (Q)) : Ev S RX4 cX4_mostTelling 3 (some .int) 2 4 [.ref 13, .int (nI a), .int (nI (i + 1))] [] σ (Q) := by
  have hi6 : i + 1 < 6 := by omega
  refine ev_iload_n_2 (pc := 4) dX4_mostTelling_4 ?_
  refine ev_iconst (pc := 5) (v := 5) dX4_mostTelling_5 (by decide) ?_
  refine ev_icmp_gt (pc := 6) (tgt := 38) dX4_mostTelling_6 (by decide) (fun h6 => by exact absurd h6 (nI_nlt (a := 5) (b := i + 1) (by omega) (by decide))) (fun h6 => ?_)
  refine ev_aload_n_0 (pc := 9) dX4_mostTelling_9 ?_
  refine ev_getR (pc := 10) (r := 17) dX4_mostTelling_10 fl_X4_30 (by decide) (by decide) (by decide) (by decide) ?_
  refine ev_iload_n_2 (pc := 13) dX4_mostTelling_13 ?_
  refine ev_aaload' (pc := 14) (r := (111 + (i + 1))) (j := (i + 1)) dX4_mostTelling_14 (by decide) (c := 12) (by decide) (by decide) (by decide) (show vp_in _ 6 from (vp_in_nI (by omega) (by decide))) (nI_clamp (by omega)) (rf17 _) ?_
  refine ev_callS1 (pc := 15) dX4_mostTelling_15 ml_X4_96 (m_X4_greatestOf (isA_tal hi6) σ) rfl (by decide) rfl (Nat.le_of_ble_eq_true rfl) ?_
  refine ev_aload_n_0 (pc := 18) dX4_mostTelling_18 ?_
  refine ev_getR (pc := 19) (r := 17) dX4_mostTelling_19 fl_X4_30 (by decide) (by decide) (by decide) (by decide) ?_
  refine ev_iload_n_1 (pc := 22) dX4_mostTelling_22 ?_
  refine ev_aaload' (pc := 23) (r := (111 + a)) (j := a) dX4_mostTelling_23 (by decide) (c := 12) (by decide) (by decide) (by decide) (show vp_in _ 6 from (vp_in_nI (by omega) (by decide))) (nI_clamp (by omega)) (rf17 _) ?_
  refine ev_callS1 (pc := 24) dX4_mostTelling_24 ml_X4_96 (m_X4_greatestOf (isA_tal ha) σ) rfl (by decide) rfl (Nat.le_of_ble_eq_true rfl) ?_
  refine ev_icmp_ge (pc := 27) (tgt := 32) dX4_mostTelling_27 (by decide) (fun h27 => ?_) (fun h27 => ?_)
  · skip
    refine ev_iinc_2 (pc := 32) (v := nI ((i + 1) + 1)) dX4_mostTelling_32 (nI_inc (i + 1)) (by decide) ?_
    refine ev_goto (pc := 35) (tgt := 4) dX4_mostTelling_35 (by decide) ?_
    exact ev_eq (by simp only [mtS, h27, ↓reduceIte]) rfl rfl K
  · skip
    refine ev_iload_n_2 (pc := 30) dX4_mostTelling_30 ?_
    refine ev_istore_n_1 (pc := 31) dX4_mostTelling_31 (by decide) ?_
    refine ev_iinc_2 (pc := 32) (v := nI ((i + 1) + 1)) dX4_mostTelling_32 (nI_inc (i + 1)) (by decide) ?_
    refine ev_goto (pc := 35) (tgt := 4) dX4_mostTelling_35 (by decide) ?_
    exact ev_eq (by simp only [mtS, h27, ↓reduceIte]) rfl rfl K
theorem m_X4_mostTelling {S : Scr}  (σ : Sto) : Mt S yX4_mostTelling cX4_mostTelling 3 (some .int) 2 [.ref 13] σ (Is (some (.int (nI (mtB (fun d => gm (σ.1 (111 + d))))))) σ) := by
  refine mt_of (ls := [.ref 13, .null, .null]) (by decide) rfl (Nat.le_of_ble_eq_true rfl) (by simp [Value.category]) ?_
  refine ev_iconst (pc := 0) (v := 0) dX4_mostTelling_0 (by decide) ?_
  refine ev_istore_n_1 (pc := 1) dX4_mostTelling_1 (by decide) ?_
  refine ev_iconst (pc := 2) (v := 1) dX4_mostTelling_2 (by decide) ?_
  refine ev_istore_n_2 (pc := 3) dX4_mostTelling_3 (by decide) ?_
  refine for_up2 5 (fun i a => Ev S RX4 cX4_mostTelling 3 (some .int) 2 4 [.ref 13, .int (nI a), .int (nI (i + 1))] [] σ (Is (some (.int (nI (mtB (fun d => gm (σ.1 (111 + d))))))) σ)) (mtS (fun d => gm (σ.1 (111 + d)))) 0 (fun i hi K => b_X4_mostTelling i hi _ (mtB_lt _ i (by omega)) σ K) ?_
  refine ev_iload_n_2 (pc := 4) dX4_mostTelling_4 ?_
  refine ev_iconst (pc := 5) (v := 5) dX4_mostTelling_5 (by decide) ?_
  refine ev_icmp_gt (pc := 6) (tgt := 38) dX4_mostTelling_6 (by decide) (fun h6 => ?_) (fun h6 => by exact absurd h6 (by decide))
  refine ev_iload_n_1 (pc := 38) dX4_mostTelling_38 ?_
  exact ev_ireturn (pc := 39) dX4_mostTelling_39 rfl rfl (⟨rfl, rfl⟩)
/-- all but the stranger's scratch cells is as it was -/
def Sx (σ τ : Sto) : Prop := τ.2 = σ.2 ∧ ∀ k j, k ≠ 38 → (k < 105 ∨ 117 ≤ k) → (k ≠ 13 ∨ j < 4) → τ.1 k j = σ.1 k j
theorem Sx.rfl' (σ : Sto) : Sx σ σ := ⟨rfl, fun _ _ _ _ _ => rfl⟩
theorem Sx.at {σ τ : Sto} (h : Sx σ τ) {k : Nat} (j : Nat) (h1 : k ≠ 38) (h2 : k < 105 ∨ 117 ≤ k) (h3 : k ≠ 13 ∨ j < 4) : τ.1 k j = σ.1 k j := h.2 k j h1 h2 h3
theorem Sx.fn {σ τ : Sto} (h : Sx σ τ) {k : Nat} (h1 : k ≠ 38) (h2 : k < 105 ∨ 117 ≤ k) (h3 : k ≠ 13) : τ.1 k = σ.1 k := funext fun j => h.2 k j h1 h2 (Or.inl h3)
theorem chgW_ne {σ : Sto} {a k : Nat} {x : Int32} (h : k ≠ a) : (chgW σ a x).1 k = σ.1 k := by
  unfold chgW watW watS addW
  split
  · rw [wr_ne h, wr_ne h, wr_ne h, wr_ne h]
  · split
    · rw [wr_ne h]
    · rfl
theorem flW_ne {σ : Sto} {a k n : Nat} {v : Int32} (h : k ≠ a) : (flW σ a v n).1 k = σ.1 k := by funext j; unfold flW; simp [h]
theorem chgW_2 (σ : Sto) (a : Nat) (x : Int32) : (chgW σ a x).2 = σ.2 := by
  unfold chgW watW watS addW
  split
  · rfl
  · split <;> rfl
theorem fsS_ne {d k : Nat} {τ : Sto} (h1 : k ≠ 105 + d) (h2 : k ≠ 111 + d) : (fsS d τ).1 k = τ.1 k := by
  unfold fsS
  rw [flW_ne h2, chgW_ne h1, cp0_ne h1]
theorem fsW_sx (σ : Sto) : Sx σ (fsW σ) := by
  have key : ∀ n, n ≤ 6 → Sx σ (itN fsS n σ) := by
    intro n
    induction n with
    | zero => intro _; exact Sx.rfl' σ
    | succ n ih =>
      intro hn
      have h := ih (by omega)
      refine ⟨?_, fun k j h1 h2 h3 => ?_⟩
      · show (chgW (cp0 (itN fsS n σ) 40 (105 + n) 4) (105 + n) (nI n)).2 = _
        rw [chgW_2]; exact h.1
      · rw [itN, fsS_ne (by omega) (by omega)]
        exact h.2 k j h1 h2 h3
  exact key 6 (Nat.le_refl 6)
theorem fsW_tal (σ : Sto) (d m : Nat) (hd : d < 6) (hm : m < 9) : (fsW σ).1 (111 + d) m = 0 := by
  have key : ∀ n, n ≤ 6 → d < n → (itN fsS n σ).1 (111 + d) m = 0 := by
    intro n
    induction n with
    | zero => intro _ h; omega
    | succ n ih =>
      intro hn h
      rw [itN]
      by_cases e : d = n
      · subst e
        unfold fsS flW
        simp [hm]
      · rw [fsS_ne (by omega) (by omega)]
        exact ih (by omega) (by omega)
  exact key 6 (Nat.le_refl 6) hd
theorem tgS_ne {d k : Nat} {τ : Sto} (h : k ≠ 111 + d) : (tgS d τ).1 k = τ.1 k := wr_ne h
theorem tg_lo (τ : Sto) (k : Nat) (h : k < 111 ∨ 117 ≤ k) : ∀ n, n ≤ 6 → (itN tgS n τ).1 k = τ.1 k := by
  intro n
  induction n with
  | zero => intro _; rfl
  | succ n ih => intro hn; rw [itN, tgS_ne (by omega)]; exact ih (by omega)
theorem tg_2 (τ : Sto) : ∀ n, (itN tgS n τ).2 = τ.2 := by
  intro n
  induction n with
  | zero => rfl
  | succ n ih => exact ih
theorem tg_at (τ : Sto) (d m : Nat) (hd : d < 6) : ∀ n, n ≤ 6 → (itN tgS n τ).1 (111 + d) m = if d < n ∧ m = tgM d τ then τ.1 (111 + d) m + 1 else τ.1 (111 + d) m := by
  intro n
  induction n with
  | zero => intro _; simp [itN]
  | succ n ih =>
    intro hn
    have hM : tgM n (itN tgS n τ) = tgM n τ := by unfold tgM; rw [tg_lo τ 38 (by omega) n (by omega), tg_lo τ 37 (by omega) n (by omega), tg_lo τ (105 + n) (by omega) n (by omega)]
    have h := ih (by omega)
    rw [itN]
    by_cases e : d = n
    · subst e
      rw [show tgS d (itN tgS d τ) = wr (itN tgS d τ) (111 + d) (tgM d τ) ((itN tgS d τ).1 (111 + d) (tgM d τ) + 1) from by rw [← hM]; rfl]
      by_cases e2 : m = tgM d τ
      · rw [e2, wr_at, ← e2, h]
        simp [e2]
      · rw [wr_nj e2, h]
        simp [e2]
    · rw [tgS_ne (by omega), h]
      have : (d < n + 1) = (d < n) := propext ⟨fun _ => by omega, fun _ => by omega⟩
      simp only [this]
abbrev aftF (σ : Sto) (d : Nat) : Nat → Int32 := (fsW σ).1 (105 + d)
def rowsN (σ : Sto) (k r : Nat) : Int32 := itN (fun r a => if fitP σ k r then a + 1 else a) r 0
def cntN (σ : Sto) (k d m r : Nat) : Int32 := itN (fun r a => if fitP σ k r ∧ mienD (dg r) 0 (aftF σ d) 0 = nI m then a + 1 else a) r 0
def bqI (σ : Sto) (k r : Nat) (τ : Sto) : Prop := Sx σ τ ∧ τ.1 13 4 = rowsN σ k r ∧ (∀ d, d < 6 → ∀ p, p < 4 → τ.1 (105 + d) p = aftF σ d p) ∧ ∀ d, d < 6 → ∀ m, m < 9 → τ.1 (111 + d) m = cntN σ k d m r
theorem fitP_congr {σ τ : Sto} {k r : Nat} (hk : k ≤ 4) (h : Sx σ τ) : fitP τ k r ↔ fitP σ k r := by
  constructor
  · intro q i hi; have := q i hi; rw [h.fn (by omega) (by omega) (by omega), h.fn (k := 14) (by omega) (by omega) (by omega)] at this; exact this
  · intro q i hi; rw [h.fn (by omega) (by omega) (by omega), h.fn (k := 14) (by omega) (by omega) (by omega)]; exact q i hi
set_option maxRecDepth 100000 in
theorem b_X4_bestQuestion {S : Scr} (k : Nat) (hk : k ≤ 4) (r : Nat) (hr : r < 1296) (σ τ : Sto) (hs : σ.1 13 2 = nI k) (hb0 : σ.1 37 1 = 0) (hI : bqI σ k r τ) {Q : Option Value → Sto → Prop} (K : ∀ τ2, bqI σ k (r + 1) τ2 → Ev S RX4 cX4_bestQuestion 3 (some .int) 3 12 [.ref 13, .ref 40, .int (nI (r + 1))] [] τ2 (Q)) : Ev S RX4 cX4_bestQuestion 3 (some .int) 3 12 [.ref 13, .ref 40, .int (nI r)] [] τ (Q) := by
  refine ev_iload_n_2 (pc := 12) dX4_bestQuestion_12 ?_
  refine ev_sipush (pc := 13) (v := 1296) dX4_bestQuestion_13 (by decide) ?_
  refine ev_icmp_ge (pc := 16) (tgt := 47) dX4_bestQuestion_16 (by decide) (fun h16 => by exact absurd h16 (nI_ge (a := r) (b := 1296) hr (by decide))) (fun h16 => ?_)
  refine ev_aload_n_0 (pc := 19) dX4_bestQuestion_19 ?_
  refine ev_iload_n_2 (pc := 20) dX4_bestQuestion_20 ?_
  refine ev_callV1 (pc := 21) dX4_bestQuestion_21 ml_X4_63 (m_X4_fits k hk r hr τ (by rw [hI.1.at 2 (by decide) (by decide) (by decide)]; exact hs) (by rw [hI.1.at 1 (by decide) (by decide) (by decide)]; exact hb0)) (by decide) ⟨_, rfl, rfl⟩ rfl (by decide) rfl (Nat.le_of_ble_eq_true rfl) ?_
  rw [bI_iff (fitP_congr (r := r) hk hI.1)]
  refine ev_if_eq (pc := 24) (tgt := 41) dX4_bestQuestion_24 (by decide) (fun h24 => ?_) (fun h24 => ?_)
  · skip
    refine ev_iinc_2 (pc := 41) (v := nI (r + 1)) dX4_bestQuestion_41 (nI_inc r) (by decide) ?_
    refine ev_goto (pc := 44) (tgt := 12) dX4_bestQuestion_44 (by decide) ?_
    rw [bI0] at h24
    refine K _ ⟨⟨hI.1.1, fun a j h1 h2 h3 => ?_⟩, ?_, ?_, ?_⟩
    · rw [digW_ne h1]; exact hI.1.2 a j h1 h2 h3
    · rw [digW_ne (by decide), hI.2.1, rowsN, rowsN, itN, if_neg h24]
    · intro d hd p hp; rw [digW_ne (by omega)]; exact hI.2.2.1 d hd p hp
    · intro d hd m hm; rw [digW_ne (by omega), hI.2.2.2 d hd m hm, cntN, cntN, itN, if_neg (fun z => h24 z.1)]
  · skip
    rw [bI0] at h24
    refine ev_aload_n_0 (pc := 27) dX4_bestQuestion_27 ?_
    refine ev_dup (pc := 28) dX4_bestQuestion_28 rfl ?_
    refine ev_getI (pc := 29) dX4_bestQuestion_29 fl_X4_54 (by decide) (by decide) (by decide) ?_
    refine ev_iconst (pc := 32) (v := 1) dX4_bestQuestion_32 (by decide) ?_
    refine ev_iadd (pc := 33) dX4_bestQuestion_33 ?_
    refine ev_putI (pc := 34) dX4_bestQuestion_34 fl_X4_54 (by decide) (by decide) (by decide) ?_
    refine ev_aload_n_0 (pc := 37) dX4_bestQuestion_37 ?_
    refine ev_callV0 (pc := 38) dX4_bestQuestion_38 ml_X4_80 (m_X4_tallyGuess _) (by decide) ⟨_, rfl, rfl⟩ rfl (by decide) rfl (Nat.le_of_ble_eq_true rfl) ?_
    refine ev_iinc_2 (pc := 41) (v := nI (r + 1)) dX4_bestQuestion_41 (nI_inc r) (by decide) ?_
    refine ev_goto (pc := 44) (tgt := 12) dX4_bestQuestion_44 (by decide) ?_
    have hf := Decidable.not_not.mp h24
    have hM : ∀ d, d < 6 → tgM d (wr (digW τ 38 r) 13 4 ((digW τ 38 r).1 13 4 + 1)) = (mienD (dg r) 0 (aftF σ d) 0).toNatClampNeg := by
      intro d hd
      unfold tgM
      rw [wr_ne (by decide), wr_ne (by decide), wr_ne (by omega), mienD_dig, digW_ne (show 37 ≠ 38 by decide), hI.1.at 1 (by decide) (by decide) (by decide), hb0, digW_ne (show 105 + d ≠ 38 by omega)]
      rw [mienD_congr (l' := dg r) (pot' := aftF σ d) (fun _ _ => rfl) (hI.2.2.1 d hd)]
    refine K _ ⟨⟨?_, fun a j h1 h2 h3 => ?_⟩, ?_, ?_, ?_⟩
    · show (itN tgS 6 _).2 = _
      rw [tg_2]; exact hI.1.1
    · show (itN tgS 6 _).1 a j = _
      rw [tg_lo _ a (by omega) 6 (Nat.le_refl 6)]
      by_cases ha : a = 13
      · subst ha
        rw [wr_nj (by omega), digW_ne (by decide)]; exact hI.1.2 13 j h1 h2 h3
      · rw [wr_ne ha, digW_ne h1]; exact hI.1.2 a j h1 h2 h3
    · show (itN tgS 6 _).1 13 4 = _
      rw [tg_lo _ 13 (by omega) 6 (Nat.le_refl 6), wr_at, digW_ne (by decide), hI.2.1, rowsN, rowsN, itN, if_pos hf]
    · intro d hd p hp
      show (itN tgS 6 _).1 (105 + d) p = _
      rw [tg_lo _ (105 + d) (by omega) 6 (Nat.le_refl 6), wr_ne (by omega), digW_ne (by omega)]; exact hI.2.2.1 d hd p hp
    · intro d hd m hm
      show (itN tgS 6 _).1 (111 + d) m = _
      rw [tg_at _ d m hd 6 (Nat.le_refl 6), hM d hd, wr_ne (by omega), digW_ne (by omega), hI.2.2.2 d hd m hm]
      obtain ⟨q, hq, he⟩ := mienD_r (dg r) 0 (aftF σ d) 0
      rw [cntN, cntN, itN, he, nI_clamp (by omega)]
      by_cases e : m = q
      · subst e
        rw [if_pos ⟨hd, rfl⟩, if_pos ⟨hf, rfl⟩]
      · rw [if_neg (fun z => e z.2), if_neg (fun z => e (by
          have h9 := congrArg Int32.toNatClampNeg z.2
          rw [nI_clamp (by omega), nI_clamp (by omega)] at h9
          exact h9.symm))]
theorem gm_congr {f g : Nat → Int32} (h : ∀ m, m < 9 → f m = g m) : gm f = gm g := by
  unfold gm
  simp only [itN]
  rw [h 0 (by decide), h 1 (by decide), h 2 (by decide), h 3 (by decide), h 4 (by decide), h 5 (by decide), h 6 (by decide), h 7 (by decide), h 8 (by decide)]
theorem mtS_congr {f g : Nat → Int32} (h : ∀ d, d < 6 → f d = g d) {k a : Nat} (hk : k < 5) (ha : a < 6) : mtS f k a = mtS g k a := by
  have h1 := h a ha
  have h2 := h (k + 1) (by omega)
  simp only [mtS, h1, h2]
theorem mtI_congr {f g : Nat → Int32} (h : ∀ d, d < 6 → f d = g d) : ∀ k, k ≤ 5 → itN (mtS f) k 0 = itN (mtS g) k 0 := by
  intro k
  induction k with
  | zero => intro _; show (0 : Nat) = 0; rfl
  | succ k ih =>
    intro hk
    have e := ih (by omega)
    have hl := mtB_lt g k (by omega)
    show mtS f k (itN (mtS f) k 0) = mtS g k (itN (mtS g) k 0)
    rw [e]
    exact mtS_congr h (by omega) hl
theorem mtB_congr {f g : Nat → Int32} (h : ∀ d, d < 6 → f d = g d) : mtB f = mtB g := mtI_congr h 5 (Nat.le_refl 5)
abbrev askD (σ : Sto) (k : Nat) : Int32 := if 1 < rowsN σ k 1296 then nI (mtB (fun d => gm (fun m => cntN σ k d m 1296))) else -9
theorem m_X4_bestQuestion {S : Scr} (k : Nat) (hk : k ≤ 4) (σ : Sto) (hs : σ.1 13 2 = nI k) (hb0 : σ.1 37 1 = 0) : Mt S yX4_bestQuestion cX4_bestQuestion 3 (some .int) 3 [.ref 13, .ref 40] σ (fun r σ' => r = some (.int (askD σ k)) ∧ Sx σ σ') := by
  refine mt_of (ls := [.ref 13, .ref 40, .null]) (by decide) rfl (Nat.le_of_ble_eq_true rfl) (by simp [Value.category]) ?_
  refine ev_aload_n_0 (pc := 0) dX4_bestQuestion_0 ?_
  refine ev_aload_n_1 (pc := 1) dX4_bestQuestion_1 ?_
  refine ev_callV0 (pc := 2) dX4_bestQuestion_2 ml_X4_76 (m_X4_foresee σ) (by decide) ⟨_, rfl, rfl⟩ rfl (by decide) rfl (Nat.le_of_ble_eq_true rfl) ?_
  refine ev_aload_n_0 (pc := 5) dX4_bestQuestion_5 ?_
  refine ev_iconst (pc := 6) (v := 0) dX4_bestQuestion_6 (by decide) ?_
  refine ev_putI (pc := 7) dX4_bestQuestion_7 fl_X4_54 (by decide) (by decide) (by decide) ?_
  refine ev_iconst (pc := 10) (v := 0) dX4_bestQuestion_10 (by decide) ?_
  refine ev_istore_n_2 (pc := 11) dX4_bestQuestion_11 (by decide) ?_
  have h0 : bqI σ k 0 (wr (fsW σ) 13 4 0) := by
    refine ⟨⟨(fsW_sx σ).1, fun a j h1 h2 h3 => ?_⟩, wr_at, fun d hd p hp => by rw [wr_ne (by omega)], fun d hd m hm => by rw [wr_ne (by omega), fsW_tal σ d m hd hm]; rfl⟩
    by_cases ha : a = 13
    · subst ha
      rw [wr_nj (by omega)]; exact (fsW_sx σ).2 13 j h1 h2 h3
    · rw [wr_ne ha]; exact (fsW_sx σ).2 a j h1 h2 h3
  revert h0
  generalize wr (fsW σ) 13 4 0 = τ0
  intro h0
  have hd : ∀ q r, r + q = 1296 → ∀ τ, bqI σ k r τ → Ev S RX4 cX4_bestQuestion 3 (some .int) 3 12 [.ref 13, .ref 40, .int (nI r)] [] τ (fun r σ' => r = some (.int (askD σ k)) ∧ Sx σ σ') := by
    intro q
    induction q with
    | zero =>
      intro r hr τ hI
      obtain rfl : r = 1296 := by omega
      have eR : τ.1 13 4 = rowsN σ k 1296 := hI.2.1
      have eM : mtB (fun d => gm (τ.1 (111 + d))) = mtB (fun d => gm (fun m => cntN σ k d m 1296)) := mtB_congr (fun d hd => gm_congr (fun m hm => hI.2.2.2 d hd m hm))
      refine ev_iload_n_2 (pc := 12) dX4_bestQuestion_12 ?_
      refine ev_sipush (pc := 13) (v := 1296) dX4_bestQuestion_13 (by decide) ?_
      refine ev_icmp_ge (pc := 16) (tgt := 47) dX4_bestQuestion_16 (by decide) (fun h16 => ?_) (fun h16 => by exact absurd (by decide) h16)
      refine ev_aload_n_0 (pc := 47) dX4_bestQuestion_47 ?_
      refine ev_getI (pc := 48) dX4_bestQuestion_48 fl_X4_54 (by decide) (by decide) (by decide) ?_
      refine ev_iconst (pc := 51) (v := 1) dX4_bestQuestion_51 (by decide) ?_
      refine ev_icmp_gt (pc := 52) (tgt := 60) dX4_bestQuestion_52 (by decide) (fun h52 => ?_) (fun h52 => ?_)
      · skip
        refine ev_aload_n_0 (pc := 60) dX4_bestQuestion_60 ?_
        refine ev_callV1 (pc := 61) dX4_bestQuestion_61 ml_X4_83 (m_X4_mostTelling τ) (by decide) ⟨_, rfl, rfl⟩ rfl (by decide) rfl (Nat.le_of_ble_eq_true rfl) ?_
        exact ev_ireturn (pc := 64) dX4_bestQuestion_64 rfl rfl (⟨by rw [eR] at h52; first | (rw [askD, if_pos h52, eM]) | (rw [askD, if_neg h52]), hI.1⟩)
      · skip
        refine ev_bipush (pc := 55) (v := (-9)) dX4_bestQuestion_55 (by decide) ?_
        refine ev_goto (pc := 57) (tgt := 64) dX4_bestQuestion_57 (by decide) ?_
        exact ev_ireturn (pc := 64) dX4_bestQuestion_64 rfl rfl (⟨by rw [eR] at h52; first | (rw [askD, if_pos h52, eM]) | (rw [askD, if_neg h52]), hI.1⟩)
    | succ q ih =>
      intro r hr τ hI
      exact b_X4_bestQuestion k hk r (by omega) σ τ hs hb0 hI (fun τ2 h2 => ih (r + 1) (by omega) τ2 h2)
  exact hd 1296 0 rfl τ0 h0
