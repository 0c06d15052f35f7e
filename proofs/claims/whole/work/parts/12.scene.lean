/-! ===== loops ===== -/
def itN {α : Type} (f : Nat → α → α) : Nat → α → α
  | 0, a => a
  | n + 1, a => f n (itN f n a)
theorem for_up {α : Type} (n : Nat) (Hd : Nat → α → Prop) (f : Nat → α → α) (B : ∀ i a, i < n → Hd (i + 1) (f i a) → Hd i a) (a0 : α) (he : Hd n (itN f n a0)) : Hd 0 a0 := by
  have key : ∀ k, k ≤ n → Hd (n - k) (itN f (n - k) a0) := by
    intro k
    induction k with
    | zero => intro _; exact he
    | succ k ih =>
      intro hk
      have h := ih (by omega)
      have e : n - k = (n - (k + 1)) + 1 := by omega
      rw [e] at h
      exact B (n - (k + 1)) _ (by omega) h
  have := key n (Nat.le_refl n)
  simpa [itN] using this
theorem bI0 {P : Prop} [Decidable P] : bI P = 0 ↔ ¬ P := by unfold bI; by_cases h : P <;> simp [h]
theorem bI1 {P : Prop} [Decidable P] : bI P = 1 ↔ P := by unfold bI; by_cases h : P <;> simp [h]
theorem isPt_vin {p : Int32} {n : Nat} (hn : n < 2 ^ 31) (h : ¬ p < 0 ∧ p < nI n) : vp_in p n := by
  obtain ⟨h1, h2⟩ := h
  rw [tI_lt, Int32.toInt_zero] at h1
  rw [tI_lt, nI_toInt hn] at h2
  exact vin (by omega) h2
theorem vin4 {p : Int32} (h : ¬ p < 0 ∧ p < 4) : vp_in p 4 := isPt_vin (n := 4) (by decide) h
theorem vin2 {p : Int32} (h : ¬ p < 0 ∧ p < 2) : vp_in p 2 := isPt_vin (n := 2) (by decide) h
def cp0 (σ : Sto) (k0 k1 n : Nat) : Sto := (fun a b => if a = k1 ∧ b < n then σ.1 k0 b else σ.1 a b, σ.2)
theorem ev_copy0 {S : Scr} {own : String} {cc : ByteArray} {nL : Nat} {rt : Option FieldType} {d pc : Nat} {ls st : List Value} {σ : Sto} {Q : Option Value → Sto → Prop} {idx k0 k1 n' : Nat} {n : Int32} (hd : decode cc pc = .ok (.invokestatic idx, 3)) (hM : LC own idx) (h1 : 0 < d) (h8 : (st.map fun v => v.category).sum ≤ 8) (hk0 : k0 < NC) (hk1 : k1 < NC) (hc0 : kd k0 = 10) (hc1 : kd k1 = 10)
    (n2 : ¬ n < 0) (hn : n.toNatClampNeg = n') (b0 : n' ≤ ln k0) (b1 : n' ≤ ln k1) (kk : Ev S own cc nL rt d (pc + 3) ls st (cp0 σ k0 k1 n') Q) : Ev S own cc nL rt d pc ls (.int n :: .int 0 :: .ref k1 :: .int 0 :: .ref k0 :: st) σ Q := by
  have z : (0 : Int32).toNatClampNeg = 0 := by decide
  refine ev_copy hd hM h1 h8 hk0 hk1 hc0 hc1 (by decide) (by decide) n2 (by rw [z, hn]; omega) (by rw [z, hn]; omega) ?_
  have e : cpy σ k0 (0 : Int32).toNatClampNeg k1 (0 : Int32).toNatClampNeg n.toNatClampNeg = cp0 σ k0 k1 n' := by
    rw [z, hn]
    unfold cpy cp0
    simp
  rw [e]
  exact kk
/-! ===== the pot, scenes, the past ===== -/
def watS (σ : Sto) (a p : Nat) : Sto := wr σ a p (mxI 0 (σ.1 a p - 1))
def watW (σ : Sto) (a : Nat) : Sto := watS (watS (watS (watS σ a 0) a 1) a 2) a 3
def addW (σ : Sto) (a p : Nat) : Sto := wr σ a p (mnI 5 (σ.1 a p + 1))
def chgW (σ : Sto) (a : Nat) (x : Int32) : Sto := if x = 4 then watW σ a else if ¬ x < 0 ∧ x < 4 then addW σ a x.toNatClampNeg else σ
set_option maxRecDepth 100000 in
theorem m_X7_change {S : Scr} {a : Nat} (ha : IsA a 4) (x : Int32) (σ : Sto) : Mt S yX7_change cX7_change 3 none 1 [.ref a, .int x] σ (Is none (chgW σ a x)) := by
  refine mt_of (ls := [.ref a, .int x, .null]) (by decide) rfl (Nat.le_of_ble_eq_true rfl) (by simp [Value.category]) ?_
  refine ev_iload_n_1 (pc := 0) dX7_change_0 ?_
  refine ev_iconst (pc := 1) (v := 4) dX7_change_1 (by decide) ?_
  refine ev_icmp_ne (pc := 2) (tgt := 33) dX7_change_2 (by decide) (fun h2 => ?_) (fun h2 => ?_)
  · skip
    refine ev_iload_n_1 (pc := 33) dX7_change_33 ?_
    refine ev_callS1 (pc := 34) dX7_change_34 ml_X7_77 (m_X7_isPart x σ) rfl (by decide) rfl (Nat.le_of_ble_eq_true rfl) ?_
    refine ev_if_eq (pc := 37) (tgt := 52) dX7_change_37 (by decide) (fun h37 => ?_) (fun h37 => ?_)
    · skip
      exact ev_return (pc := 52) dX7_change_52 rfl (⟨rfl, by unfold chgW; first | rw [if_pos h2]; rfl | (rw [bI0] at h37; rw [if_neg h2, if_neg h37]) | (rw [bI0] at h37; rw [if_neg h2, if_pos (Decidable.not_not.mp h37)]; rfl)⟩)
    · skip
      refine ev_aload_n_0 (pc := 40) dX7_change_40 ?_
      refine ev_iload_n_1 (pc := 41) dX7_change_41 ?_
      refine ev_iconst (pc := 42) (v := 5) dX7_change_42 (by decide) ?_
      refine ev_aload_n_0 (pc := 43) dX7_change_43 ?_
      refine ev_iload_n_1 (pc := 44) dX7_change_44 ?_
      refine ev_iaload' (pc := 45) (j := _) dX7_change_45 ha.1 ha.2.1 (by rw [ha.2.2]; exact (vin4 (by rw [bI0] at h37; exact Decidable.not_not.mp h37))) rfl ?_
      refine ev_iconst (pc := 46) (v := 1) dX7_change_46 (by decide) ?_
      refine ev_iadd (pc := 47) dX7_change_47 ?_
      refine ev_mmin' (pc := 48) dX7_change_48 ml_X7_270 (by decide) (Nat.le_of_ble_eq_true rfl) ?_
      refine ev_iastore' (pc := 51) (j := _) dX7_change_51 ha.1 ha.2.1 (by rw [ha.2.2]; exact (vin4 (by rw [bI0] at h37; exact Decidable.not_not.mp h37))) rfl ?_
      exact ev_return (pc := 52) dX7_change_52 rfl (⟨rfl, by unfold chgW; first | rw [if_pos h2]; rfl | (rw [bI0] at h37; rw [if_neg h2, if_neg h37]) | (rw [bI0] at h37; rw [if_neg h2, if_pos (Decidable.not_not.mp h37)]; rfl)⟩)
  · skip
    refine ev_iconst (pc := 5) (v := 0) dX7_change_5 (by decide) ?_
    refine ev_istore_n_2 (pc := 6) dX7_change_6 (by decide) ?_
    refine ev_iload_n_2 (pc := 7) dX7_change_7 ?_
    refine ev_iconst (pc := 8) (v := 4) dX7_change_8 (by decide) ?_
    refine ev_icmp_ge (pc := 9) (tgt := 30) dX7_change_9 (by decide) (fun h9 => by exact absurd h9 (by decide)) (fun h9 => ?_)
    refine ev_aload_n_0 (pc := 12) dX7_change_12 ?_
    refine ev_iload_n_2 (pc := 13) dX7_change_13 ?_
    refine ev_iconst (pc := 14) (v := 0) dX7_change_14 (by decide) ?_
    refine ev_aload_n_0 (pc := 15) dX7_change_15 ?_
    refine ev_iload_n_2 (pc := 16) dX7_change_16 ?_
    refine ev_iaload' (pc := 17) (j := 0) dX7_change_17 ha.1 ha.2.1 (by rw [ha.2.2]; exact (vin_c (by decide))) (by decide) ?_
    refine ev_iconst (pc := 18) (v := 1) dX7_change_18 (by decide) ?_
    refine ev_isub (pc := 19) dX7_change_19 ?_
    refine ev_mmax' (pc := 20) dX7_change_20 ml_X7_264 (by decide) (Nat.le_of_ble_eq_true rfl) ?_
    refine ev_iastore' (pc := 23) (j := 0) dX7_change_23 ha.1 ha.2.1 (by rw [ha.2.2]; exact (vin_c (by decide))) (by decide) ?_
    refine ev_iinc_2 (pc := 24) (v := 1) dX7_change_24 (by decide) (by decide) ?_
    refine ev_goto (pc := 27) (tgt := 7) dX7_change_27 (by decide) ?_
    refine ev_iload_n_2 (pc := 7) dX7_change_7 ?_
    refine ev_iconst (pc := 8) (v := 4) dX7_change_8 (by decide) ?_
    refine ev_icmp_ge (pc := 9) (tgt := 30) dX7_change_9 (by decide) (fun h9 => by exact absurd h9 (by decide)) (fun h9 => ?_)
    refine ev_aload_n_0 (pc := 12) dX7_change_12 ?_
    refine ev_iload_n_2 (pc := 13) dX7_change_13 ?_
    refine ev_iconst (pc := 14) (v := 0) dX7_change_14 (by decide) ?_
    refine ev_aload_n_0 (pc := 15) dX7_change_15 ?_
    refine ev_iload_n_2 (pc := 16) dX7_change_16 ?_
    refine ev_iaload' (pc := 17) (j := 1) dX7_change_17 ha.1 ha.2.1 (by rw [ha.2.2]; exact (vin_c (by decide))) (by decide) ?_
    refine ev_iconst (pc := 18) (v := 1) dX7_change_18 (by decide) ?_
    refine ev_isub (pc := 19) dX7_change_19 ?_
    refine ev_mmax' (pc := 20) dX7_change_20 ml_X7_264 (by decide) (Nat.le_of_ble_eq_true rfl) ?_
    refine ev_iastore' (pc := 23) (j := 1) dX7_change_23 ha.1 ha.2.1 (by rw [ha.2.2]; exact (vin_c (by decide))) (by decide) ?_
    refine ev_iinc_2 (pc := 24) (v := 2) dX7_change_24 (by decide) (by decide) ?_
    refine ev_goto (pc := 27) (tgt := 7) dX7_change_27 (by decide) ?_
    refine ev_iload_n_2 (pc := 7) dX7_change_7 ?_
    refine ev_iconst (pc := 8) (v := 4) dX7_change_8 (by decide) ?_
    refine ev_icmp_ge (pc := 9) (tgt := 30) dX7_change_9 (by decide) (fun h9 => by exact absurd h9 (by decide)) (fun h9 => ?_)
    refine ev_aload_n_0 (pc := 12) dX7_change_12 ?_
    refine ev_iload_n_2 (pc := 13) dX7_change_13 ?_
    refine ev_iconst (pc := 14) (v := 0) dX7_change_14 (by decide) ?_
    refine ev_aload_n_0 (pc := 15) dX7_change_15 ?_
    refine ev_iload_n_2 (pc := 16) dX7_change_16 ?_
    refine ev_iaload' (pc := 17) (j := 2) dX7_change_17 ha.1 ha.2.1 (by rw [ha.2.2]; exact (vin_c (by decide))) (by decide) ?_
    refine ev_iconst (pc := 18) (v := 1) dX7_change_18 (by decide) ?_
    refine ev_isub (pc := 19) dX7_change_19 ?_
    refine ev_mmax' (pc := 20) dX7_change_20 ml_X7_264 (by decide) (Nat.le_of_ble_eq_true rfl) ?_
    refine ev_iastore' (pc := 23) (j := 2) dX7_change_23 ha.1 ha.2.1 (by rw [ha.2.2]; exact (vin_c (by decide))) (by decide) ?_
    refine ev_iinc_2 (pc := 24) (v := 3) dX7_change_24 (by decide) (by decide) ?_
    refine ev_goto (pc := 27) (tgt := 7) dX7_change_27 (by decide) ?_
    refine ev_iload_n_2 (pc := 7) dX7_change_7 ?_
    refine ev_iconst (pc := 8) (v := 4) dX7_change_8 (by decide) ?_
    refine ev_icmp_ge (pc := 9) (tgt := 30) dX7_change_9 (by decide) (fun h9 => by exact absurd h9 (by decide)) (fun h9 => ?_)
    refine ev_aload_n_0 (pc := 12) dX7_change_12 ?_
    refine ev_iload_n_2 (pc := 13) dX7_change_13 ?_
    refine ev_iconst (pc := 14) (v := 0) dX7_change_14 (by decide) ?_
    refine ev_aload_n_0 (pc := 15) dX7_change_15 ?_
    refine ev_iload_n_2 (pc := 16) dX7_change_16 ?_
    refine ev_iaload' (pc := 17) (j := 3) dX7_change_17 ha.1 ha.2.1 (by rw [ha.2.2]; exact (vin_c (by decide))) (by decide) ?_
    refine ev_iconst (pc := 18) (v := 1) dX7_change_18 (by decide) ?_
    refine ev_isub (pc := 19) dX7_change_19 ?_
    refine ev_mmax' (pc := 20) dX7_change_20 ml_X7_264 (by decide) (Nat.le_of_ble_eq_true rfl) ?_
    refine ev_iastore' (pc := 23) (j := 3) dX7_change_23 ha.1 ha.2.1 (by rw [ha.2.2]; exact (vin_c (by decide))) (by decide) ?_
    refine ev_iinc_2 (pc := 24) (v := 4) dX7_change_24 (by decide) (by decide) ?_
    refine ev_goto (pc := 27) (tgt := 7) dX7_change_27 (by decide) ?_
    refine ev_iload_n_2 (pc := 7) dX7_change_7 ?_
    refine ev_iconst (pc := 8) (v := 4) dX7_change_8 (by decide) ?_
    refine ev_icmp_ge (pc := 9) (tgt := 30) dX7_change_9 (by decide) (fun h9 => ?_) (fun h9 => by exact absurd h9 (by decide))
    refine ev_goto (pc := 30) (tgt := 52) dX7_change_30 (by decide) ?_
    exact ev_return (pc := 52) dX7_change_52 rfl (⟨rfl, by unfold chgW; first | rw [if_pos h2]; rfl | (rw [bI0] at h37; rw [if_neg h2, if_neg h37]) | (rw [bI0] at h37; rw [if_neg h2, if_pos (Decidable.not_not.mp h37)]; rfl)⟩)
def becW (σ : Sto) (A B : Nat) : Sto := cp0 (cp0 (cp0 σ (B + 1) (A + 1) 4) (B + 2) (A + 2) 6) (B + 3) (A + 3) 6
set_option maxRecDepth 100000 in
theorem m_X3_become {S : Scr} {A B : Nat} (hA : IsSc A) (hB : IsSc B) (σ : Sto) : Mt S yX3_become cX3_become 2 none 1 [.ref A, .ref B] σ (Is none (becW σ A B)) := by
  refine mt_of (ls := [.ref A, .ref B]) (by decide) rfl (Nat.le_of_ble_eq_true rfl) (by simp [Value.category]) ?_
  refine ev_aload_n_1 (pc := 0) dX3_become_0 ?_
  refine ev_getR (pc := 1) (r := (B + 1)) dX3_become_1 fl_X3_9 hB.lt hB.kd0 (by decide) (hB.rfj 0) ?_
  refine ev_iconst (pc := 4) (v := 0) dX3_become_4 (by decide) ?_
  refine ev_aload_n_0 (pc := 5) dX3_become_5 ?_
  refine ev_getR (pc := 6) (r := (A + 1)) dX3_become_6 fl_X3_9 hA.lt hA.kd0 (by decide) (hA.rfj 0) ?_
  refine ev_iconst (pc := 9) (v := 0) dX3_become_9 (by decide) ?_
  refine ev_iconst (pc := 10) (v := 4) dX3_become_10 (by decide) ?_
  refine ev_copy0 (pc := 11) (n' := 4) dX3_become_11 ml_X3_21 (by decide) (Nat.le_of_ble_eq_true rfl) hB.lt1 hA.lt1 hB.kd1 hA.kd1 (by decide) (by decide) (by rw [hB.ln1]; decide) (by rw [hA.ln1]; decide) ?_
  refine ev_aload_n_1 (pc := 14) dX3_become_14 ?_
  refine ev_getR (pc := 15) (r := (B + 2)) dX3_become_15 fl_X3_15 hB.lt hB.kd0 (by decide) (hB.rfj 1) ?_
  refine ev_iconst (pc := 18) (v := 0) dX3_become_18 (by decide) ?_
  refine ev_aload_n_0 (pc := 19) dX3_become_19 ?_
  refine ev_getR (pc := 20) (r := (A + 2)) dX3_become_20 fl_X3_15 hA.lt hA.kd0 (by decide) (hA.rfj 1) ?_
  refine ev_iconst (pc := 23) (v := 0) dX3_become_23 (by decide) ?_
  refine ev_bipush (pc := 24) (v := 6) dX3_become_24 (by decide) ?_
  refine ev_copy0 (pc := 26) (n' := 6) dX3_become_26 ml_X3_21 (by decide) (Nat.le_of_ble_eq_true rfl) hB.lt2 hA.lt2 hB.kd2 hA.kd2 (by decide) (by decide) (by rw [hB.ln2]; decide) (by rw [hA.ln2]; decide) ?_
  refine ev_aload_n_1 (pc := 29) dX3_become_29 ?_
  refine ev_getR (pc := 30) (r := (B + 3)) dX3_become_30 fl_X3_18 hB.lt hB.kd0 (by decide) (hB.rfj 2) ?_
  refine ev_iconst (pc := 33) (v := 0) dX3_become_33 (by decide) ?_
  refine ev_aload_n_0 (pc := 34) dX3_become_34 ?_
  refine ev_getR (pc := 35) (r := (A + 3)) dX3_become_35 fl_X3_18 hA.lt hA.kd0 (by decide) (hA.rfj 2) ?_
  refine ev_iconst (pc := 38) (v := 0) dX3_become_38 (by decide) ?_
  refine ev_bipush (pc := 39) (v := 6) dX3_become_39 (by decide) ?_
  refine ev_copy0 (pc := 41) (n' := 6) dX3_become_41 ml_X3_21 (by decide) (Nat.le_of_ble_eq_true rfl) hB.lt3 hA.lt3 hB.kd3 hA.kd3 (by decide) (by decide) (by rw [hB.ln3]; decide) (by rw [hA.ln3]; decide) ?_
  exact ev_return (pc := 44) dX3_become_44 rfl (⟨rfl, rfl⟩)
def begS (n : Int32) (b : Nat) (σ : Sto) : Sto := wr (wr σ 41 b (if n ≤ nI b then 0 else σ.1 (95 + b) 5)) 42 b (-9)
theorem rf3 (b : Nat) : rf 3 b = 95 + b := rfl
theorem rows_lt : ∀ b, b < 6 → 95 + b < NC ∧ kd (95 + b) = 10 ∧ ln (95 + b) = 6 := by decide
theorem isA_rows {b : Nat} (h : b < 6) : IsA (95 + b) 6 := rows_lt b h
set_option maxRecDepth 100000 in
theorem b_X3_begin {S : Scr} (n : Int32) (b : Nat) (hb : b < 6) (σ : Sto) {Q : Option Value → Sto → Prop} (K : Ev S RX3 cX3_begin 5 none 1 14 [.ref 39, .ref 4, .ref 3, .int n, .int (nI (b + 1))] [] (begS n b σ) (Q)) : Ev S RX3 cX3_begin 5 none 1 14 [.ref 39, .ref 4, .ref 3, .int n, .int (nI b)] [] σ (Q) := by
  refine ev_iload_4 (pc := 14) dX3_begin_14 ?_
  refine ev_bipush (pc := 16) (v := 6) dX3_begin_16 (by decide) ?_
  refine ev_icmp_ge (pc := 18) (tgt := 59) dX3_begin_18 (by decide) (fun h18 => by exact absurd h18 (nI_ge hb (by decide))) (fun h18 => ?_)
  refine ev_aload_n_0 (pc := 21) dX3_begin_21 ?_
  refine ev_getR (pc := 22) (r := 41) dX3_begin_22 fl_X3_15 (by decide) (by decide) (by decide) (by decide) ?_
  refine ev_iload_4 (pc := 25) dX3_begin_25 ?_
  refine ev_iload_4 (pc := 27) dX3_begin_27 ?_
  refine ev_iload_n_3 (pc := 29) dX3_begin_29 ?_
  refine ev_icmp_ge (pc := 30) (tgt := 42) dX3_begin_30 (by decide) (fun h30 => ?_) (fun h30 => ?_)
  · skip
    refine ev_iconst (pc := 42) (v := 0) dX3_begin_42 (by decide) ?_
    refine ev_iastore' (pc := 43) (j := b) dX3_begin_43 (by decide) (by decide) (show vp_in _ 6 from (vp_in_nI (by omega) (by decide))) (nI_clamp (by omega)) ?_
    refine ev_aload_n_0 (pc := 44) dX3_begin_44 ?_
    refine ev_getR (pc := 45) (r := 42) dX3_begin_45 fl_X3_18 (by decide) (by decide) (by decide) (by decide) ?_
    refine ev_iload_4 (pc := 48) dX3_begin_48 ?_
    refine ev_bipush (pc := 50) (v := (-9)) dX3_begin_50 (by decide) ?_
    refine ev_iastore' (pc := 52) (j := b) dX3_begin_52 (by decide) (by decide) (show vp_in _ 6 from (vp_in_nI (by omega) (by decide))) (nI_clamp (by omega)) ?_
    refine ev_iinc_4 (pc := 53) (v := nI (b + 1)) dX3_begin_53 (nI_inc b) (by decide) ?_
    refine ev_goto (pc := 56) (tgt := 14) dX3_begin_56 (by decide) ?_
    exact ev_eq rfl rfl (by simp only [begS, h30, ↓reduceIte]) K
  · skip
    refine ev_aload_n_2 (pc := 33) dX3_begin_33 ?_
    refine ev_iload_4 (pc := 34) dX3_begin_34 ?_
    refine ev_aaload' (pc := 36) (r := (95 + b)) (j := b) dX3_begin_36 (by decide) (c := 12) (by decide) (by decide) (by decide) (show vp_in _ 6 from (vp_in_nI (by omega) (by decide))) (nI_clamp (by omega)) (rf3 b) ?_
    refine ev_iconst (pc := 37) (v := 5) dX3_begin_37 (by decide) ?_
    refine ev_iaload' (pc := 38) (j := 5) dX3_begin_38 (isA_rows hb).1 (isA_rows hb).2.1 (by rw [(isA_rows hb).2.2]; exact (vin_c (by decide))) (by decide) ?_
    refine ev_goto (pc := 39) (tgt := 43) dX3_begin_39 (by decide) ?_
    refine ev_iastore' (pc := 43) (j := b) dX3_begin_43 (by decide) (by decide) (show vp_in _ 6 from (vp_in_nI (by omega) (by decide))) (nI_clamp (by omega)) ?_
    refine ev_aload_n_0 (pc := 44) dX3_begin_44 ?_
    refine ev_getR (pc := 45) (r := 42) dX3_begin_45 fl_X3_18 (by decide) (by decide) (by decide) (by decide) ?_
    refine ev_iload_4 (pc := 48) dX3_begin_48 ?_
    refine ev_bipush (pc := 50) (v := (-9)) dX3_begin_50 (by decide) ?_
    refine ev_iastore' (pc := 52) (j := b) dX3_begin_52 (by decide) (by decide) (show vp_in _ 6 from (vp_in_nI (by omega) (by decide))) (nI_clamp (by omega)) ?_
    refine ev_iinc_4 (pc := 53) (v := nI (b + 1)) dX3_begin_53 (nI_inc b) (by decide) ?_
    refine ev_goto (pc := 56) (tgt := 14) dX3_begin_56 (by decide) ?_
    exact ev_eq rfl rfl (by simp only [begS, h30, ↓reduceIte]) K
def begW (n : Int32) (σ : Sto) : Sto := itN (begS n) 6 (cp0 σ 4 40 4)
theorem m_X3_begin {S : Scr} (n : Int32) (σ : Sto) : Mt S yX3_begin cX3_begin 5 none 1 [.ref 39, .ref 4, .ref 3, .int n] σ (Is none (begW n σ)) := by
  refine mt_of (ls := [.ref 39, .ref 4, .ref 3, .int n, .null]) (by decide) rfl (Nat.le_of_ble_eq_true rfl) (by simp [Value.category]) ?_
  refine ev_aload_n_1 (pc := 0) dX3_begin_0 ?_
  refine ev_iconst (pc := 1) (v := 0) dX3_begin_1 (by decide) ?_
  refine ev_aload_n_0 (pc := 2) dX3_begin_2 ?_
  refine ev_getR (pc := 3) (r := 40) dX3_begin_3 fl_X3_9 (by decide) (by decide) (by decide) (by decide) ?_
  refine ev_iconst (pc := 6) (v := 0) dX3_begin_6 (by decide) ?_
  refine ev_iconst (pc := 7) (v := 4) dX3_begin_7 (by decide) ?_
  refine ev_copy0 (pc := 8) (n' := 4) dX3_begin_8 ml_X3_21 (by decide) (Nat.le_of_ble_eq_true rfl) (by decide) (by decide) (by decide) (by decide) (by decide) (by decide) (by decide) (by decide) ?_
  refine ev_iconst (pc := 11) (v := 0) dX3_begin_11 (by decide) ?_
  refine ev_istore_4 (pc := 12) dX3_begin_12 (by decide) ?_
  refine for_up 6 (fun i τ => Ev S RX3 cX3_begin 5 none 1 14 [.ref 39, .ref 4, .ref 3, .int n, .int (nI i)] [] τ (Is none (begW n σ))) (begS n) (fun i τ hi K => b_X3_begin n i hi τ K) (cp0 σ 4 40 4) ?_
  refine ev_iload_4 (pc := 14) dX3_begin_14 ?_
  refine ev_bipush (pc := 16) (v := 6) dX3_begin_16 (by decide) ?_
  refine ev_icmp_ge (pc := 18) (tgt := 59) dX3_begin_18 (by decide) (fun h18 => ?_) (fun h18 => by exact absurd h18 (by decide))
  exact ev_return (pc := 59) dX3_begin_59 rfl (⟨rfl, rfl⟩)
def cldD (f : Nat → Int32) : Int32 := 0 ||| f 0 <<< ((0 : Int32) &&& 31) ||| f 1 <<< ((1 : Int32) &&& 31) ||| f 2 <<< ((2 : Int32) &&& 31) ||| f 3 <<< ((3 : Int32) &&& 31) ||| f 4 <<< ((4 : Int32) &&& 31) ||| f 5 <<< ((5 : Int32) &&& 31)
set_option maxRecDepth 100000 in
theorem m_X3_coldSet {S : Scr}  (σ : Sto) : Mt S yX3_coldSet cX3_coldSet 3 (some .int) 0 [.ref 39] σ (Is (some (.int (cldD (σ.1 41)))) σ) := by
  refine mt_of (ls := [.ref 39, .null, .null]) (by decide) rfl (Nat.le_of_ble_eq_true rfl) (by simp [Value.category]) ?_
  refine ev_iconst (pc := 0) (v := 0) dX3_coldSet_0 (by decide) ?_
  refine ev_istore_n_1 (pc := 1) dX3_coldSet_1 (by decide) ?_
  refine ev_iconst (pc := 2) (v := 0) dX3_coldSet_2 (by decide) ?_
  refine ev_istore_n_2 (pc := 3) dX3_coldSet_3 (by decide) ?_
  refine ev_iload_n_2 (pc := 4) dX3_coldSet_4 ?_
  refine ev_bipush (pc := 5) (v := 6) dX3_coldSet_5 (by decide) ?_
  refine ev_icmp_ge (pc := 7) (tgt := 27) dX3_coldSet_7 (by decide) (fun h7 => by exact absurd h7 (by decide)) (fun h7 => ?_)
  refine ev_iload_n_1 (pc := 10) dX3_coldSet_10 ?_
  refine ev_aload_n_0 (pc := 11) dX3_coldSet_11 ?_
  refine ev_getR (pc := 12) (r := 41) dX3_coldSet_12 fl_X3_15 (by decide) (by decide) (by decide) (by decide) ?_
  refine ev_iload_n_2 (pc := 15) dX3_coldSet_15 ?_
  refine ev_iaload' (pc := 16) (j := 0) dX3_coldSet_16 (by decide) (by decide) (show vp_in _ 6 from (vin_c (by decide))) (by decide) ?_
  refine ev_iload_n_2 (pc := 17) dX3_coldSet_17 ?_
  refine ev_ishl (pc := 18) dX3_coldSet_18 ?_
  refine ev_ior (pc := 19) dX3_coldSet_19 ?_
  refine ev_istore_n_1 (pc := 20) dX3_coldSet_20 (by decide) ?_
  refine ev_iinc_2 (pc := 21) (v := 1) dX3_coldSet_21 (by decide) (by decide) ?_
  refine ev_goto (pc := 24) (tgt := 4) dX3_coldSet_24 (by decide) ?_
  refine ev_iload_n_2 (pc := 4) dX3_coldSet_4 ?_
  refine ev_bipush (pc := 5) (v := 6) dX3_coldSet_5 (by decide) ?_
  refine ev_icmp_ge (pc := 7) (tgt := 27) dX3_coldSet_7 (by decide) (fun h7 => by exact absurd h7 (by decide)) (fun h7 => ?_)
  refine ev_iload_n_1 (pc := 10) dX3_coldSet_10 ?_
  refine ev_aload_n_0 (pc := 11) dX3_coldSet_11 ?_
  refine ev_getR (pc := 12) (r := 41) dX3_coldSet_12 fl_X3_15 (by decide) (by decide) (by decide) (by decide) ?_
  refine ev_iload_n_2 (pc := 15) dX3_coldSet_15 ?_
  refine ev_iaload' (pc := 16) (j := 1) dX3_coldSet_16 (by decide) (by decide) (show vp_in _ 6 from (vin_c (by decide))) (by decide) ?_
  refine ev_iload_n_2 (pc := 17) dX3_coldSet_17 ?_
  refine ev_ishl (pc := 18) dX3_coldSet_18 ?_
  refine ev_ior (pc := 19) dX3_coldSet_19 ?_
  refine ev_istore_n_1 (pc := 20) dX3_coldSet_20 (by decide) ?_
  refine ev_iinc_2 (pc := 21) (v := 2) dX3_coldSet_21 (by decide) (by decide) ?_
  refine ev_goto (pc := 24) (tgt := 4) dX3_coldSet_24 (by decide) ?_
  refine ev_iload_n_2 (pc := 4) dX3_coldSet_4 ?_
  refine ev_bipush (pc := 5) (v := 6) dX3_coldSet_5 (by decide) ?_
  refine ev_icmp_ge (pc := 7) (tgt := 27) dX3_coldSet_7 (by decide) (fun h7 => by exact absurd h7 (by decide)) (fun h7 => ?_)
  refine ev_iload_n_1 (pc := 10) dX3_coldSet_10 ?_
  refine ev_aload_n_0 (pc := 11) dX3_coldSet_11 ?_
  refine ev_getR (pc := 12) (r := 41) dX3_coldSet_12 fl_X3_15 (by decide) (by decide) (by decide) (by decide) ?_
  refine ev_iload_n_2 (pc := 15) dX3_coldSet_15 ?_
  refine ev_iaload' (pc := 16) (j := 2) dX3_coldSet_16 (by decide) (by decide) (show vp_in _ 6 from (vin_c (by decide))) (by decide) ?_
  refine ev_iload_n_2 (pc := 17) dX3_coldSet_17 ?_
  refine ev_ishl (pc := 18) dX3_coldSet_18 ?_
  refine ev_ior (pc := 19) dX3_coldSet_19 ?_
  refine ev_istore_n_1 (pc := 20) dX3_coldSet_20 (by decide) ?_
  refine ev_iinc_2 (pc := 21) (v := 3) dX3_coldSet_21 (by decide) (by decide) ?_
  refine ev_goto (pc := 24) (tgt := 4) dX3_coldSet_24 (by decide) ?_
  refine ev_iload_n_2 (pc := 4) dX3_coldSet_4 ?_
  refine ev_bipush (pc := 5) (v := 6) dX3_coldSet_5 (by decide) ?_
  refine ev_icmp_ge (pc := 7) (tgt := 27) dX3_coldSet_7 (by decide) (fun h7 => by exact absurd h7 (by decide)) (fun h7 => ?_)
  refine ev_iload_n_1 (pc := 10) dX3_coldSet_10 ?_
  refine ev_aload_n_0 (pc := 11) dX3_coldSet_11 ?_
  refine ev_getR (pc := 12) (r := 41) dX3_coldSet_12 fl_X3_15 (by decide) (by decide) (by decide) (by decide) ?_
  refine ev_iload_n_2 (pc := 15) dX3_coldSet_15 ?_
  refine ev_iaload' (pc := 16) (j := 3) dX3_coldSet_16 (by decide) (by decide) (show vp_in _ 6 from (vin_c (by decide))) (by decide) ?_
  refine ev_iload_n_2 (pc := 17) dX3_coldSet_17 ?_
  refine ev_ishl (pc := 18) dX3_coldSet_18 ?_
  refine ev_ior (pc := 19) dX3_coldSet_19 ?_
  refine ev_istore_n_1 (pc := 20) dX3_coldSet_20 (by decide) ?_
  refine ev_iinc_2 (pc := 21) (v := 4) dX3_coldSet_21 (by decide) (by decide) ?_
  refine ev_goto (pc := 24) (tgt := 4) dX3_coldSet_24 (by decide) ?_
  refine ev_iload_n_2 (pc := 4) dX3_coldSet_4 ?_
  refine ev_bipush (pc := 5) (v := 6) dX3_coldSet_5 (by decide) ?_
  refine ev_icmp_ge (pc := 7) (tgt := 27) dX3_coldSet_7 (by decide) (fun h7 => by exact absurd h7 (by decide)) (fun h7 => ?_)
  refine ev_iload_n_1 (pc := 10) dX3_coldSet_10 ?_
  refine ev_aload_n_0 (pc := 11) dX3_coldSet_11 ?_
  refine ev_getR (pc := 12) (r := 41) dX3_coldSet_12 fl_X3_15 (by decide) (by decide) (by decide) (by decide) ?_
  refine ev_iload_n_2 (pc := 15) dX3_coldSet_15 ?_
  refine ev_iaload' (pc := 16) (j := 4) dX3_coldSet_16 (by decide) (by decide) (show vp_in _ 6 from (vin_c (by decide))) (by decide) ?_
  refine ev_iload_n_2 (pc := 17) dX3_coldSet_17 ?_
  refine ev_ishl (pc := 18) dX3_coldSet_18 ?_
  refine ev_ior (pc := 19) dX3_coldSet_19 ?_
  refine ev_istore_n_1 (pc := 20) dX3_coldSet_20 (by decide) ?_
  refine ev_iinc_2 (pc := 21) (v := 5) dX3_coldSet_21 (by decide) (by decide) ?_
  refine ev_goto (pc := 24) (tgt := 4) dX3_coldSet_24 (by decide) ?_
  refine ev_iload_n_2 (pc := 4) dX3_coldSet_4 ?_
  refine ev_bipush (pc := 5) (v := 6) dX3_coldSet_5 (by decide) ?_
  refine ev_icmp_ge (pc := 7) (tgt := 27) dX3_coldSet_7 (by decide) (fun h7 => by exact absurd h7 (by decide)) (fun h7 => ?_)
  refine ev_iload_n_1 (pc := 10) dX3_coldSet_10 ?_
  refine ev_aload_n_0 (pc := 11) dX3_coldSet_11 ?_
  refine ev_getR (pc := 12) (r := 41) dX3_coldSet_12 fl_X3_15 (by decide) (by decide) (by decide) (by decide) ?_
  refine ev_iload_n_2 (pc := 15) dX3_coldSet_15 ?_
  refine ev_iaload' (pc := 16) (j := 5) dX3_coldSet_16 (by decide) (by decide) (show vp_in _ 6 from (vin_c (by decide))) (by decide) ?_
  refine ev_iload_n_2 (pc := 17) dX3_coldSet_17 ?_
  refine ev_ishl (pc := 18) dX3_coldSet_18 ?_
  refine ev_ior (pc := 19) dX3_coldSet_19 ?_
  refine ev_istore_n_1 (pc := 20) dX3_coldSet_20 (by decide) ?_
  refine ev_iinc_2 (pc := 21) (v := 6) dX3_coldSet_21 (by decide) (by decide) ?_
  refine ev_goto (pc := 24) (tgt := 4) dX3_coldSet_24 (by decide) ?_
  refine ev_iload_n_2 (pc := 4) dX3_coldSet_4 ?_
  refine ev_bipush (pc := 5) (v := 6) dX3_coldSet_5 (by decide) ?_
  refine ev_icmp_ge (pc := 7) (tgt := 27) dX3_coldSet_7 (by decide) (fun h7 => ?_) (fun h7 => by exact absurd h7 (by decide))
  refine ev_iload_n_1 (pc := 27) dX3_coldSet_27 ?_
  exact ev_ireturn (pc := 28) dX3_coldSet_28 rfl rfl (⟨rfl, rfl⟩)
def nxt (i : Nat) : Nat := if i + 1 < 10 then i + 1 else 0
def prv (i : Nat) : Nat := if 0 < i then i - 1 else 9
def remW (σ : Sto) (i : Nat) : Sto := wr (wr (becW σ (55 + 4 * i) 39) 9 1 (nI (nxt i))) 9 2 (mnI 10 (σ.1 9 2 + 1))
def bbW (σ : Sto) (i : Nat) : Sto := becW (wr (wr σ 9 1 (nI (prv i))) 9 2 (σ.1 9 2 - 1)) 39 (55 + 4 * prv i)
theorem nxt_i : ∀ i, i < 10 → (10 ≤ nI i + 1 → (0 : Int32) = nI (nxt i)) ∧ (¬ 10 ≤ nI i + 1 → nI i + 1 = nI (nxt i)) := by decide +kernel
theorem prv_i : ∀ i, i < 10 → (nI i ≤ 0 → (9 : Int32) = nI (prv i)) ∧ (¬ nI i ≤ 0 → nI i - 1 = nI (prv i)) ∧ prv i < 10 := by decide +kernel
theorem isSc_past {i : Nat} (h : i < 10) : IsSc (55 + 4 * i) := ⟨4 + i, by omega, by omega⟩
theorem isSc_img {i : Nat} (h : i < 2) : IsSc (47 + 4 * i) := ⟨2 + i, by omega, by omega⟩
theorem isSc_39 : IsSc 39 := ⟨0, by decide, rfl⟩
theorem isSc_43 : IsSc 43 := ⟨1, by decide, rfl⟩
theorem rf10 (i : Nat) : rf 10 i = 55 + 4 * i := rfl
theorem rf11 (i : Nat) : rf 11 i = 47 + 4 * i := rfl
theorem rf6 (i : Nat) : rf 6 i = 25 + 2 * i := rfl
theorem isTa_of {b : Nat} (h : b < 6) : IsTa (25 + 2 * b) := ⟨b, by omega, rfl⟩
theorem becW_9 {σ : Sto} {A B i : Nat} (hA : 39 ≤ A) : (becW σ A B).1 9 i = σ.1 9 i := by
  unfold becW cp0
  simp [show ¬ 9 = A + 1 by omega, show ¬ 9 = A + 2 by omega, show ¬ 9 = A + 3 by omega]
set_option maxRecDepth 100000 in
theorem m_X1_remember {S : Scr} (i : Nat) (hi : i < 10) (σ : Sto) (hn : σ.1 9 1 = nI i) : Mt S yX1_remember cX1_remember 2 none 2 [.ref 9, .ref 39] σ (Is none (remW σ i)) := by
  refine mt_of (ls := [.ref 9, .ref 39]) (by decide) rfl (Nat.le_of_ble_eq_true rfl) (by simp [Value.category]) ?_
  refine ev_aload_n_0 (pc := 0) dX1_remember_0 ?_
  refine ev_getR (pc := 1) (r := 10) dX1_remember_1 fl_X1_11 (by decide) (by decide) (by decide) (by decide) ?_
  refine ev_aload_n_0 (pc := 4) dX1_remember_4 ?_
  refine ev_getI (pc := 5) dX1_remember_5 fl_X1_18 (by decide) (by decide) (by decide) ?_
  refine ev_aaload' (pc := 8) (r := (55 + 4 * i)) (j := i) dX1_remember_8 (by decide) (c := 13) (by decide) (by decide) (by decide) (show vp_in _ 10 from (by rw [hn]; exact vp_in_nI hi (by decide))) (by rw [hn]; exact nI_clamp (by omega)) (rf10 i) ?_
  refine ev_aload_n_1 (pc := 9) dX1_remember_9 ?_
  refine ev_callV0 (pc := 10) dX1_remember_10 ml_X1_22 (m_X3_become (isSc_past hi) isSc_39 σ) (isSc_past hi).lt ⟨_, by rw [(isSc_past hi).kd0]; rfl, rfl⟩ rfl (by decide) rfl (Nat.le_of_ble_eq_true rfl) ?_
  have g : ∀ j, (becW σ (55 + 4 * i) 39).1 9 j = σ.1 9 j := fun j => becW_9 (by omega)
  refine ev_aload_n_0 (pc := 13) dX1_remember_13 ?_
  refine ev_aload_n_0 (pc := 14) dX1_remember_14 ?_
  refine ev_getI (pc := 15) dX1_remember_15 fl_X1_18 (by decide) (by decide) (by decide) ?_
  refine ev_iconst (pc := 18) (v := 1) dX1_remember_18 (by decide) ?_
  refine ev_iadd (pc := 19) dX1_remember_19 ?_
  refine ev_bipush (pc := 20) (v := 10) dX1_remember_20 (by decide) ?_
  refine ev_icmp_ge (pc := 22) (tgt := 34) dX1_remember_22 (by decide) (fun h22 => ?_) (fun h22 => ?_)
  · skip
    refine ev_iconst (pc := 34) (v := 0) dX1_remember_34 (by decide) ?_
    rw [g, hn] at h22
    refine ev_eq (st' := [.int (nI (nxt i)), .ref 9]) rfl (by (try rw [g, hn]); first | rw [(nxt_i i hi).1 h22] | rw [(nxt_i i hi).2 h22]) rfl ?_
    refine ev_putI (pc := 35) dX1_remember_35 fl_X1_18 (by decide) (by decide) (by decide) ?_
    refine ev_aload_n_0 (pc := 38) dX1_remember_38 ?_
    refine ev_bipush (pc := 39) (v := 10) dX1_remember_39 (by decide) ?_
    refine ev_aload_n_0 (pc := 41) dX1_remember_41 ?_
    refine ev_getI (pc := 42) dX1_remember_42 fl_X1_26 (by decide) (by decide) (by decide) ?_
    refine ev_iconst (pc := 45) (v := 1) dX1_remember_45 (by decide) ?_
    refine ev_iadd (pc := 46) dX1_remember_46 ?_
    refine ev_mmin' (pc := 47) dX1_remember_47 ml_X1_29 (by decide) (Nat.le_of_ble_eq_true rfl) ?_
    refine ev_putI (pc := 50) dX1_remember_50 fl_X1_26 (by decide) (by decide) (by decide) ?_
    exact ev_return (pc := 53) dX1_remember_53 rfl (⟨rfl, by unfold remW; rw [show (wr (becW σ (55 + 4 * i) 39) 9 1 (nI (nxt i))).1 9 2 = σ.1 9 2 from (by rw [← g 2]; simp [wr])]⟩)
  · skip
    refine ev_aload_n_0 (pc := 25) dX1_remember_25 ?_
    refine ev_getI (pc := 26) dX1_remember_26 fl_X1_18 (by decide) (by decide) (by decide) ?_
    refine ev_iconst (pc := 29) (v := 1) dX1_remember_29 (by decide) ?_
    refine ev_iadd (pc := 30) dX1_remember_30 ?_
    refine ev_goto (pc := 31) (tgt := 35) dX1_remember_31 (by decide) ?_
    rw [g, hn] at h22
    refine ev_eq (st' := [.int (nI (nxt i)), .ref 9]) rfl (by (try rw [g, hn]); first | rw [(nxt_i i hi).1 h22] | rw [(nxt_i i hi).2 h22]) rfl ?_
    refine ev_putI (pc := 35) dX1_remember_35 fl_X1_18 (by decide) (by decide) (by decide) ?_
    refine ev_aload_n_0 (pc := 38) dX1_remember_38 ?_
    refine ev_bipush (pc := 39) (v := 10) dX1_remember_39 (by decide) ?_
    refine ev_aload_n_0 (pc := 41) dX1_remember_41 ?_
    refine ev_getI (pc := 42) dX1_remember_42 fl_X1_26 (by decide) (by decide) (by decide) ?_
    refine ev_iconst (pc := 45) (v := 1) dX1_remember_45 (by decide) ?_
    refine ev_iadd (pc := 46) dX1_remember_46 ?_
    refine ev_mmin' (pc := 47) dX1_remember_47 ml_X1_29 (by decide) (Nat.le_of_ble_eq_true rfl) ?_
    refine ev_putI (pc := 50) dX1_remember_50 fl_X1_26 (by decide) (by decide) (by decide) ?_
    exact ev_return (pc := 53) dX1_remember_53 rfl (⟨rfl, by unfold remW; rw [show (wr (becW σ (55 + 4 * i) 39) 9 1 (nI (nxt i))).1 9 2 = σ.1 9 2 from (by rw [← g 2]; simp [wr])]⟩)
set_option maxRecDepth 100000 in
theorem m_X1_bringBack {S : Scr} (i : Nat) (hi : i < 10) (σ : Sto) (hn : σ.1 9 1 = nI i) : Mt S yX1_bringBack cX1_bringBack 2 (some .int) 2 [.ref 9, .ref 39] σ (Is (some (.int (σ.1 9 2 - 1))) (bbW σ i)) := by
  refine mt_of (ls := [.ref 9, .ref 39]) (by decide) rfl (Nat.le_of_ble_eq_true rfl) (by simp [Value.category]) ?_
  have hj := (prv_i i hi).2.2
  refine ev_aload_n_0 (pc := 0) dX1_bringBack_0 ?_
  refine ev_aload_n_0 (pc := 1) dX1_bringBack_1 ?_
  refine ev_getI (pc := 2) dX1_bringBack_2 fl_X1_18 (by decide) (by decide) (by decide) ?_
  refine ev_if_le (pc := 5) (tgt := 17) dX1_bringBack_5 (by decide) (fun h5 => ?_) (fun h5 => ?_)
  · skip
    refine ev_bipush (pc := 17) (v := 9) dX1_bringBack_17 (by decide) ?_
    rw [hn] at h5
    refine ev_eq (st' := [.int (nI (prv i)), .ref 9]) rfl (by (try rw [hn]); first | rw [(prv_i i hi).1 h5] | rw [(prv_i i hi).2.1 h5]) rfl ?_
    refine ev_putI (pc := 19) dX1_bringBack_19 fl_X1_18 (by decide) (by decide) (by decide) ?_
    refine ev_aload_n_0 (pc := 22) dX1_bringBack_22 ?_
    refine ev_dup (pc := 23) dX1_bringBack_23 rfl ?_
    refine ev_getI (pc := 24) dX1_bringBack_24 fl_X1_26 (by decide) (by decide) (by decide) ?_
    refine ev_iconst (pc := 27) (v := 1) dX1_bringBack_27 (by decide) ?_
    refine ev_isub (pc := 28) dX1_bringBack_28 ?_
    refine ev_putI (pc := 29) dX1_bringBack_29 fl_X1_26 (by decide) (by decide) (by decide) ?_
    rw [show (wr σ 9 1 (nI (prv i))).1 9 2 = σ.1 9 2 from (by simp [wr])]
    have q : (wr (wr σ 9 1 (nI (prv i))) 9 2 (σ.1 9 2 - 1)).1 9 1 = nI (prv i) := by simp [wr]
    refine ev_aload_n_1 (pc := 32) dX1_bringBack_32 ?_
    refine ev_aload_n_0 (pc := 33) dX1_bringBack_33 ?_
    refine ev_getR (pc := 34) (r := 10) dX1_bringBack_34 fl_X1_11 (by decide) (by decide) (by decide) (by decide) ?_
    refine ev_aload_n_0 (pc := 37) dX1_bringBack_37 ?_
    refine ev_getI (pc := 38) dX1_bringBack_38 fl_X1_18 (by decide) (by decide) (by decide) ?_
    refine ev_aaload' (pc := 41) (r := (55 + 4 * prv i)) (j := (prv i)) dX1_bringBack_41 (by decide) (c := 13) (by decide) (by decide) (by decide) (show vp_in _ 10 from (by rw [q]; exact vp_in_nI hj (by decide))) (by rw [q]; exact nI_clamp (by omega)) (rf10 _) ?_
    refine ev_callV0 (pc := 42) dX1_bringBack_42 ml_X1_22 (m_X3_become isSc_39 (isSc_past hj) _) (by decide) ⟨_, rfl, rfl⟩ rfl (by decide) rfl (Nat.le_of_ble_eq_true rfl) ?_
    refine ev_aload_n_0 (pc := 45) dX1_bringBack_45 ?_
    refine ev_getI (pc := 46) dX1_bringBack_46 fl_X1_26 (by decide) (by decide) (by decide) ?_
    exact ev_ireturn (pc := 49) dX1_bringBack_49 rfl rfl (⟨by rw [becW_9 (by omega)]; simp [wr], rfl⟩)
  · skip
    refine ev_aload_n_0 (pc := 8) dX1_bringBack_8 ?_
    refine ev_getI (pc := 9) dX1_bringBack_9 fl_X1_18 (by decide) (by decide) (by decide) ?_
    refine ev_iconst (pc := 12) (v := 1) dX1_bringBack_12 (by decide) ?_
    refine ev_isub (pc := 13) dX1_bringBack_13 ?_
    refine ev_goto (pc := 14) (tgt := 19) dX1_bringBack_14 (by decide) ?_
    rw [hn] at h5
    refine ev_eq (st' := [.int (nI (prv i)), .ref 9]) rfl (by (try rw [hn]); first | rw [(prv_i i hi).1 h5] | rw [(prv_i i hi).2.1 h5]) rfl ?_
    refine ev_putI (pc := 19) dX1_bringBack_19 fl_X1_18 (by decide) (by decide) (by decide) ?_
    refine ev_aload_n_0 (pc := 22) dX1_bringBack_22 ?_
    refine ev_dup (pc := 23) dX1_bringBack_23 rfl ?_
    refine ev_getI (pc := 24) dX1_bringBack_24 fl_X1_26 (by decide) (by decide) (by decide) ?_
    refine ev_iconst (pc := 27) (v := 1) dX1_bringBack_27 (by decide) ?_
    refine ev_isub (pc := 28) dX1_bringBack_28 ?_
    refine ev_putI (pc := 29) dX1_bringBack_29 fl_X1_26 (by decide) (by decide) (by decide) ?_
    rw [show (wr σ 9 1 (nI (prv i))).1 9 2 = σ.1 9 2 from (by simp [wr])]
    have q : (wr (wr σ 9 1 (nI (prv i))) 9 2 (σ.1 9 2 - 1)).1 9 1 = nI (prv i) := by simp [wr]
    refine ev_aload_n_1 (pc := 32) dX1_bringBack_32 ?_
    refine ev_aload_n_0 (pc := 33) dX1_bringBack_33 ?_
    refine ev_getR (pc := 34) (r := 10) dX1_bringBack_34 fl_X1_11 (by decide) (by decide) (by decide) (by decide) ?_
    refine ev_aload_n_0 (pc := 37) dX1_bringBack_37 ?_
    refine ev_getI (pc := 38) dX1_bringBack_38 fl_X1_18 (by decide) (by decide) (by decide) ?_
    refine ev_aaload' (pc := 41) (r := (55 + 4 * prv i)) (j := (prv i)) dX1_bringBack_41 (by decide) (c := 13) (by decide) (by decide) (by decide) (show vp_in _ 10 from (by rw [q]; exact vp_in_nI hj (by decide))) (by rw [q]; exact nI_clamp (by omega)) (rf10 _) ?_
    refine ev_callV0 (pc := 42) dX1_bringBack_42 ml_X1_22 (m_X3_become isSc_39 (isSc_past hj) _) (by decide) ⟨_, rfl, rfl⟩ rfl (by decide) rfl (Nat.le_of_ble_eq_true rfl) ?_
    refine ev_aload_n_0 (pc := 45) dX1_bringBack_45 ?_
    refine ev_getI (pc := 46) dX1_bringBack_46 fl_X1_26 (by decide) (by decide) (by decide) ?_
    exact ev_ireturn (pc := 49) dX1_bringBack_49 rfl rfl (⟨by rw [becW_9 (by omega)]; simp [wr], rfl⟩)
