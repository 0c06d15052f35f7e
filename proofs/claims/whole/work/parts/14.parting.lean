theorem for_up2 {α : Type} (n : Nat) (Hd : Nat → α → Prop) (f : Nat → α → α) (a0 : α) (B : ∀ i, i < n → Hd (i + 1) (f i (itN f i a0)) → Hd i (itN f i a0)) (he : Hd n (itN f n a0)) : Hd 0 a0 := by
  have key : ∀ k, k ≤ n → Hd (n - k) (itN f (n - k) a0) := by
    intro k
    induction k with
    | zero => intro _; exact he
    | succ k ih =>
      intro hk
      have h := ih (by omega)
      have e : n - k = (n - (k + 1)) + 1 := by omega
      rw [e] at h
      exact B (n - (k + 1)) (by omega) h
  have := key n (Nat.le_refl n)
  simpa [itN] using this
def bcmS (b : Nat) (τ : Sto) : Sto := wr (cp0 τ (95 + b) (25 + 2 * b + 1) 4) (25 + 2 * b) 1 (τ.1 (95 + b) 4)
theorem mn6 : ∀ n, n ≤ 6 → mnI (nI n) 6 = nI n := by decide +kernel
theorem bcmS_5 {b : Nat} (hb : b < 6) (τ : Sto) (j : Nat) : (bcmS b τ).1 5 j = τ.1 5 j := by
  unfold bcmS wr cp0
  simp [show ¬ 5 = 25 + 2 * b by omega, show ¬ 5 = 25 + 2 * b + 1 by omega]
set_option maxRecDepth 100000 in
theorem b_X0_become {S : Scr} (n : Nat) (hn : n ≤ 6) (b : Nat) (hb : b < n) (σ : Sto) (hm : σ.1 5 1 = nI n) {Q : Option Value → Sto → Prop} (K : Ev S RX0 cX0_become 4 none 1 12 [.ref 5, .ref 3, .int (nI n), .int (nI (b + 1))] [] (bcmS b σ) (Q)) : Ev S RX0 cX0_become 4 none 1 12 [.ref 5, .ref 3, .int (nI n), .int (nI b)] [] σ (Q) := by
  have hb6 : b < 6 := by omega
  refine ev_iload_n_3 (pc := 12) dX0_become_12 ?_
  refine ev_aload_n_0 (pc := 13) dX0_become_13 ?_
  refine ev_getI (pc := 14) dX0_become_14 fl_X0_31 (by decide) (by decide) (by decide) ?_
  refine ev_icmp_ge (pc := 17) (tgt := 58) dX0_become_17 (by decide) (fun h17 => by exact absurd h17 (by rw [hm]; exact nI_ge hb (by omega))) (fun h17 => ?_)
  refine ev_aload_n_1 (pc := 20) dX0_become_20 ?_
  refine ev_iload_n_3 (pc := 21) dX0_become_21 ?_
  refine ev_aaload' (pc := 22) (r := (95 + b)) (j := b) dX0_become_22 (by decide) (c := 12) (by decide) (by decide) (by decide) (show vp_in _ 6 from (vp_in_nI (by omega) (by decide))) (nI_clamp (by omega)) (rf3 b) ?_
  refine ev_iconst (pc := 23) (v := 0) dX0_become_23 (by decide) ?_
  refine ev_aload_n_0 (pc := 24) dX0_become_24 ?_
  refine ev_getR (pc := 25) (r := 6) dX0_become_25 fl_X0_11 (by decide) (by decide) (by decide) (by decide) ?_
  refine ev_iload_n_3 (pc := 28) dX0_become_28 ?_
  refine ev_aaload' (pc := 29) (r := (25 + 2 * b)) (j := b) dX0_become_29 (by decide) (c := 14) (by decide) (by decide) (by decide) (show vp_in _ 6 from (vp_in_nI (by omega) (by decide))) (nI_clamp (by omega)) (rf6 b) ?_
  refine ev_getR (pc := 30) (r := ((25 + 2 * b) + 1)) dX0_become_30 fl_X0_35 (isTa_of hb6).lt (isTa_of hb6).kd0 (by decide) ((isTa_of hb6).rfj 0) ?_
  refine ev_iconst (pc := 33) (v := 0) dX0_become_33 (by decide) ?_
  refine ev_iconst (pc := 34) (v := 4) dX0_become_34 (by decide) ?_
  refine ev_copy0 (pc := 35) (n' := 4) dX0_become_35 ml_X0_38 (by decide) (Nat.le_of_ble_eq_true rfl) (isA_rows hb6).1 (isTa_of hb6).lt1 (isA_rows hb6).2.1 (isTa_of hb6).kd1 (by decide) (by decide) (by rw [(isA_rows hb6).2.2]; decide) (by rw [(isTa_of hb6).ln1]; decide) ?_
  refine ev_aload_n_0 (pc := 38) dX0_become_38 ?_
  refine ev_getR (pc := 39) (r := 6) dX0_become_39 fl_X0_11 (by decide) (by decide) (by decide) (by decide) ?_
  refine ev_iload_n_3 (pc := 42) dX0_become_42 ?_
  refine ev_aaload' (pc := 43) (r := (25 + 2 * b)) (j := b) dX0_become_43 (by decide) (c := 14) (by decide) (by decide) (by decide) (show vp_in _ 6 from (vp_in_nI (by omega) (by decide))) (nI_clamp (by omega)) (rf6 b) ?_
  refine ev_aload_n_1 (pc := 44) dX0_become_44 ?_
  refine ev_iload_n_3 (pc := 45) dX0_become_45 ?_
  refine ev_aaload' (pc := 46) (r := (95 + b)) (j := b) dX0_become_46 (by decide) (c := 12) (by decide) (by decide) (by decide) (show vp_in _ 6 from (vp_in_nI (by omega) (by decide))) (nI_clamp (by omega)) (rf3 b) ?_
  refine ev_iconst (pc := 47) (v := 4) dX0_become_47 (by decide) ?_
  refine ev_iaload' (pc := 48) (j := 4) dX0_become_48 (isA_rows hb6).1 (isA_rows hb6).2.1 (by rw [(isA_rows hb6).2.2]; exact (vin_c (by decide))) (by decide) ?_
  refine ev_putI (pc := 49) dX0_become_49 fl_X0_44 (isTa_of hb6).lt (isTa_of hb6).kd0 (by decide) ?_
  refine ev_iinc_3 (pc := 52) (v := nI (b + 1)) dX0_become_52 (nI_inc b) (by decide) ?_
  refine ev_goto (pc := 55) (tgt := 12) dX0_become_55 (by decide) ?_
  exact ev_eq rfl rfl (by unfold bcmS; rw [show (cp0 σ (95 + b) (25 + 2 * b + 1) 4).1 (95 + b) 4 = σ.1 (95 + b) 4 from (by unfold cp0; simp)]) K
def bcmW (n : Nat) (σ : Sto) : Sto := itN bcmS n (wr σ 5 1 (nI n))
theorem m_X0_become {S : Scr} (n : Nat) (hn : n ≤ 6) (σ : Sto) : Mt S yX0_become cX0_become 4 none 1 [.ref 5, .ref 3, .int (nI n)] σ (Is none (bcmW n σ)) := by
  refine mt_of (ls := [.ref 5, .ref 3, .int (nI n), .null]) (by decide) rfl (Nat.le_of_ble_eq_true rfl) (by simp [Value.category]) ?_
  refine ev_aload_n_0 (pc := 0) dX0_become_0 ?_
  refine ev_iload_n_2 (pc := 1) dX0_become_1 ?_
  refine ev_bipush (pc := 2) (v := 6) dX0_become_2 (by decide) ?_
  refine ev_mmin' (pc := 4) dX0_become_4 ml_X0_25 (by decide) (Nat.le_of_ble_eq_true rfl) ?_
  refine ev_putI (pc := 7) dX0_become_7 fl_X0_31 (by decide) (by decide) (by decide) ?_
  rw [mn6 n hn]
  refine ev_iconst (pc := 10) (v := 0) dX0_become_10 (by decide) ?_
  refine ev_istore_n_3 (pc := 11) dX0_become_11 (by decide) ?_
  have hx : ∀ k, k ≤ n → (itN bcmS k (wr σ 5 1 (nI n))).1 5 1 = nI n := by
    intro k
    induction k with
    | zero => intro _; simp [itN, wr]
    | succ k ih => intro h; rw [itN, bcmS_5 (by omega)]; exact ih (by omega)
  refine for_up2 n (fun i τ => Ev S RX0 cX0_become 4 none 1 12 [.ref 5, .ref 3, .int (nI n), .int (nI i)] [] τ (Is none (bcmW n σ))) bcmS (wr σ 5 1 (nI n)) (fun i hi K => b_X0_become n hn i hi _ (hx i (by omega)) K) ?_
  have hm := hx n (Nat.le_refl n)
  refine ev_iload_n_3 (pc := 12) dX0_become_12 ?_
  refine ev_aload_n_0 (pc := 13) dX0_become_13 ?_
  refine ev_getI (pc := 14) dX0_become_14 fl_X0_31 (by decide) (by decide) (by decide) ?_
  refine ev_icmp_ge (pc := 17) (tgt := 58) dX0_become_17 (by decide) (fun h17 => ?_) (fun h17 => by exact absurd (by rw [hm]; exact nI_le (Nat.le_refl n) (by omega)) h17)
  exact ev_return (pc := 58) dX0_become_58 rfl (⟨rfl, rfl⟩)
theorem evry_n : ∀ n, n ≤ 6 → evry (nI n) = nI (2 ^ n - 1) ∧ 2 ^ n ≤ 64 ∧ 0 < 2 ^ n := by decide +kernel
def lmW (σ : Sto) (f : Nat → Int32) (i : Nat) : Sto := (fun k b => if k = 7 ∧ b < i then f b else σ.1 k b, σ.2)
theorem lmW_0 (σ : Sto) (f : Nat → Int32) : lmW σ f 0 = σ := by unfold lmW; simp
theorem lmW_s (σ : Sto) (f : Nat → Int32) (i : Nat) : wr (lmW σ f i) 7 i (f i) = lmW σ f (i + 1) := by
  unfold wr lmW
  refine Prod.ext (funext fun k => funext fun b => ?_) rfl
  show (if k = 7 ∧ b = i then f i else if k = 7 ∧ b < i then f b else σ.1 k b) = if k = 7 ∧ b < i + 1 then f b else σ.1 k b
  by_cases h : k = 7
  · by_cases h2 : b = i
    · simp [h, h2]
    · have e : (b < i + 1) = (b < i) := propext ⟨fun h => by omega, fun h => by omega⟩
      simp [h, h2, e]
  · simp [h]
theorem lmW_ne {σ : Sto} {f : Nat → Int32} {i k : Nat} (h : k ≠ 7) : (lmW σ f i).1 k = σ.1 k := by funext b; unfold lmW; simp [h]
theorem lmB_lmW (σ : Sto) (f : Nat → Int32) (i C n : Nat) (s : Int32) (hC : C ≠ 7) (hn : n ≤ 6) : lmB (lmW σ f i) C n s = lmB σ C n s := by
  have hp : ∀ p m, mpB (lmW σ f i) C n s p m = mpB σ C n s p m := by
    intro p m
    unfold mpB
    congr 1
    funext b a
    unfold mpS
    rw [lmW_ne hC, lmW_ne (show 25 + 2 * b + 1 ≠ 7 by omega)]
  have hb : ∀ p, baB (lmW σ f i) C n s p = baB σ C n s p := by
    intro p
    unfold baB baS
    simp only [hp]
  unfold lmB
  simp only [hp, hb]
abbrev pmB (n : Nat) (f : Nat → Int32) (i : Nat) : Int32 := f i + f (2 ^ n - 1 - i)
theorem nI_sub {a b : Nat} (h : b ≤ a) (ha : a < 2 ^ 31) : nI a - nI b = nI (a - b) := by
  have e : nI a = nI (a - b) + nI b := by
    show Int32.ofNat a = Int32.ofNat (a - b) + Int32.ofNat b
    rw [← Int32.ofNat_add]
    congr 1
    omega
  rw [e, Int32.add_sub_cancel]
set_option maxRecDepth 100000 in
theorem m_X0_partedMind {S : Scr} (n : Nat) (hn : n ≤ 6) (i : Nat) (hi : i < 2 ^ n) (σ : Sto) (hm : σ.1 5 1 = nI n) : Mt S yX0_partedMind cX0_partedMind 2 (some .int) 1 [.ref 5, .int (nI i)] σ (Is (some (.int (pmB n (σ.1 7) i))) σ) := by
  refine mt_of (ls := [.ref 5, .int (nI i)]) (by decide) rfl (Nat.le_of_ble_eq_true rfl) (by simp [Value.category]) ?_
  have h64 := (evry_n n hn).2.1
  refine ev_aload_n_0 (pc := 0) dX0_partedMind_0 ?_
  refine ev_getR (pc := 1) (r := 7) dX0_partedMind_1 fl_X0_17 (by decide) (by decide) (by decide) (by decide) ?_
  refine ev_iload_n_1 (pc := 4) dX0_partedMind_4 ?_
  refine ev_iaload' (pc := 5) (j := i) dX0_partedMind_5 (by decide) (by decide) (show vp_in _ 64 from (vp_in_nI (by omega) (by decide))) (nI_clamp (by omega)) ?_
  refine ev_aload_n_0 (pc := 6) dX0_partedMind_6 ?_
  refine ev_getR (pc := 7) (r := 7) dX0_partedMind_7 fl_X0_17 (by decide) (by decide) (by decide) (by decide) ?_
  refine ev_aload_n_0 (pc := 10) dX0_partedMind_10 ?_
  refine ev_callV1 (pc := 11) dX0_partedMind_11 ml_X0_94 (m_X0_everyone σ) (by decide) ⟨_, rfl, rfl⟩ rfl (by decide) rfl (Nat.le_of_ble_eq_true rfl) ?_
  refine ev_iload_n_1 (pc := 14) dX0_partedMind_14 ?_
  refine ev_isub (pc := 15) dX0_partedMind_15 ?_
  rw [hm, (evry_n n hn).1, nI_sub (by omega) (by omega)]
  refine ev_iaload' (pc := 16) (j := (2 ^ n - 1 - i)) dX0_partedMind_16 (by decide) (by decide) (show vp_in _ 64 from (vp_in_nI (by omega) (by decide))) (nI_clamp (by omega)) ?_
  refine ev_iadd (pc := 17) dX0_partedMind_17 ?_
  exact ev_ireturn (pc := 18) dX0_partedMind_18 rfl rfl (⟨rfl, rfl⟩)
set_option maxRecDepth 100000 in
theorem b1_X0_bestParting {S : Scr} {C : Nat} (hC : IsA C 6) (hC7 : C ≠ 7) (n : Nat) (hn : n ≤ 6) (i : Nat) (hi : i < 2 ^ n) (σ : Sto) (hm : σ.1 5 1 = nI n) {Q : Option Value → Sto → Prop} (K : Ev S RX0 cX0_bestParting 5 (some .int) 4 7 [.ref 5, .ref C, .int (nI (2 ^ n - 1)), .int (nI (i + 1)), .null] [] (wr σ 7 i (lmB σ C n (nI i))) (Q)) : Ev S RX0 cX0_bestParting 5 (some .int) 4 7 [.ref 5, .ref C, .int (nI (2 ^ n - 1)), .int (nI i), .null] [] σ (Q) := by
  have h64 := (evry_n n hn).2.1
  refine ev_iload_n_3 (pc := 7) dX0_bestParting_7 ?_
  refine ev_iload_n_2 (pc := 8) dX0_bestParting_8 ?_
  refine ev_icmp_gt (pc := 9) (tgt := 30) dX0_bestParting_9 (by decide) (fun h9 => by exact absurd h9 (nI_nlt (by omega) (by omega))) (fun h9 => ?_)
  refine ev_aload_n_0 (pc := 12) dX0_bestParting_12 ?_
  refine ev_getR (pc := 13) (r := 7) dX0_bestParting_13 fl_X0_17 (by decide) (by decide) (by decide) (by decide) ?_
  refine ev_iload_n_3 (pc := 16) dX0_bestParting_16 ?_
  refine ev_aload_n_0 (pc := 17) dX0_bestParting_17 ?_
  refine ev_iload_n_3 (pc := 18) dX0_bestParting_18 ?_
  refine ev_aload_n_1 (pc := 19) dX0_bestParting_19 ?_
  refine ev_callV1 (pc := 20) dX0_bestParting_20 ml_X0_98 (m_X0_leastMind hC n hn (nI i) σ hm) (by decide) ⟨_, rfl, rfl⟩ rfl (by decide) rfl (Nat.le_of_ble_eq_true rfl) ?_
  refine ev_iastore' (pc := 23) (j := i) dX0_bestParting_23 (by decide) (by decide) (show vp_in _ 64 from (vp_in_nI (by omega) (by decide))) (nI_clamp (by omega)) ?_
  refine ev_iinc_3 (pc := 24) (v := nI (i + 1)) dX0_bestParting_24 (nI_inc i) (by decide) ?_
  refine ev_goto (pc := 27) (tgt := 7) dX0_bestParting_27 (by decide) ?_
  exact K
abbrev bpS (n : Nat) (f : Nat → Int32) (i a : Nat) : Nat := if pmB n f a ≤ pmB n f (i + 1) then a else i + 1
set_option maxRecDepth 100000 in
theorem b2_X0_bestParting {S : Scr} {C : Nat} (hC : IsA C 6) (hC7 : C ≠ 7) (n : Nat) (hn : n ≤ 6) (i : Nat) (hi : i < 2 ^ n - 1) (a : Nat) (ha : a < 2 ^ n) (σ : Sto) (hm : σ.1 5 1 = nI n) {Q : Option Value → Sto → Prop} (K : Ev S RX0 cX0_bestParting 5 (some .int) 4 35 [.ref 5, .ref C, .int (nI (2 ^ n - 1)), .int (nI (bpS n (σ.1 7) i a)), .int (nI (i + 1 + 1))] [] σ (Q)) : Ev S RX0 cX0_bestParting 5 (some .int) 4 35 [.ref 5, .ref C, .int (nI (2 ^ n - 1)), .int (nI a), .int (nI (i + 1))] [] σ (Q) := by
  have h64 := (evry_n n hn).2.1
  refine ev_iload_4 (pc := 35) dX0_bestParting_35 ?_
  refine ev_iload_n_2 (pc := 37) dX0_bestParting_37 ?_
  refine ev_icmp_gt (pc := 38) (tgt := 64) dX0_bestParting_38 (by decide) (fun h38 => by exact absurd h38 (nI_nlt (by omega) (by omega))) (fun h38 => ?_)
  refine ev_aload_n_0 (pc := 41) dX0_bestParting_41 ?_
  refine ev_iload_4 (pc := 42) dX0_bestParting_42 ?_
  refine ev_callV1 (pc := 44) dX0_bestParting_44 ml_X0_102 (m_X0_partedMind n hn (i + 1) (by omega) σ hm) (by decide) ⟨_, rfl, rfl⟩ rfl (by decide) rfl (Nat.le_of_ble_eq_true rfl) ?_
  refine ev_aload_n_0 (pc := 47) dX0_bestParting_47 ?_
  refine ev_iload_n_3 (pc := 48) dX0_bestParting_48 ?_
  refine ev_callV1 (pc := 49) dX0_bestParting_49 ml_X0_102 (m_X0_partedMind n hn a ha σ hm) (by decide) ⟨_, rfl, rfl⟩ rfl (by decide) rfl (Nat.le_of_ble_eq_true rfl) ?_
  refine ev_icmp_ge (pc := 52) (tgt := 58) dX0_bestParting_52 (by decide) (fun h52 => ?_) (fun h52 => ?_)
  · skip
    refine ev_iinc_4 (pc := 58) (v := nI ((i + 1) + 1)) dX0_bestParting_58 (nI_inc (i + 1)) (by decide) ?_
    refine ev_goto (pc := 61) (tgt := 35) dX0_bestParting_61 (by decide) ?_
    exact ev_eq (by simp only [bpS, h52, ↓reduceIte]) rfl rfl K
  · skip
    refine ev_iload_4 (pc := 55) dX0_bestParting_55 ?_
    refine ev_istore_n_3 (pc := 57) dX0_bestParting_57 (by decide) ?_
    refine ev_iinc_4 (pc := 58) (v := nI ((i + 1) + 1)) dX0_bestParting_58 (nI_inc (i + 1)) (by decide) ?_
    refine ev_goto (pc := 61) (tgt := 35) dX0_bestParting_61 (by decide) ?_
    exact ev_eq (by simp only [bpS, h52, ↓reduceIte]) rfl rfl K
abbrev lmF (σ : Sto) (C n : Nat) : Nat → Int32 := fun i => lmB σ C n (nI i)
def bpB (σ : Sto) (C n : Nat) : Nat := itN (bpS n (lmW σ (lmF σ C n) (2 ^ n) |>.1 7)) (2 ^ n - 1) 0
theorem bpS_lt {n : Nat} {f : Nat → Int32} {i a : Nat} (hi : i < 2 ^ n - 1) (ha : a < 2 ^ n) : bpS n f i a < 2 ^ n := by unfold bpS; split <;> omega
theorem bpI_lt {n : Nat} {f : Nat → Int32} (h0 : 0 < 2 ^ n) : ∀ k, k ≤ 2 ^ n - 1 → itN (bpS n f) k 0 < 2 ^ n := by
  intro k
  induction k with
  | zero => intro _; exact h0
  | succ k ih => intro h; exact bpS_lt (by omega) (ih (by omega))
theorem m_X0_bestParting {S : Scr} {C : Nat} (hC : IsA C 6) (hC7 : C ≠ 7) (n : Nat) (hn : n ≤ 6) (σ : Sto) (hm : σ.1 5 1 = nI n) : Mt S yX0_bestParting cX0_bestParting 5 (some .int) 4 [.ref 5, .ref C] σ (Is (some (.int (nI (bpB σ C n)))) (lmW σ (lmF σ C n) (2 ^ n))) := by
  refine mt_of (ls := [.ref 5, .ref C, .null, .null, .null]) (by decide) rfl (Nat.le_of_ble_eq_true rfl) (by simp [Value.category]) ?_
  have h64 := (evry_n n hn).2.1
  have h00 := (evry_n n hn).2.2
  refine ev_aload_n_0 (pc := 0) dX0_bestParting_0 ?_
  refine ev_callV1 (pc := 1) dX0_bestParting_1 ml_X0_94 (m_X0_everyone σ) (by decide) ⟨_, rfl, rfl⟩ rfl (by decide) rfl (Nat.le_of_ble_eq_true rfl) ?_
  rw [hm, (evry_n n hn).1]
  refine ev_istore_n_2 (pc := 4) dX0_bestParting_4 (by decide) ?_
  refine ev_iconst (pc := 5) (v := 0) dX0_bestParting_5 (by decide) ?_
  refine ev_istore_n_3 (pc := 6) dX0_bestParting_6 (by decide) ?_
  refine ev_eq (σ' := lmW σ (lmF σ C n) 0) rfl rfl (lmW_0 _ _).symm ?_
  refine for_up (2 ^ n) (fun i (_ : Unit) => Ev S RX0 cX0_bestParting 5 (some .int) 4 7 [.ref 5, .ref C, .int (nI (2 ^ n - 1)), .int (nI i), .null] [] (lmW σ (lmF σ C n) i) (Is (some (.int (nI (bpB σ C n)))) (lmW σ (lmF σ C n) (2 ^ n)))) (fun _ u => u) (fun i _ hi K => b1_X0_bestParting hC hC7 n hn i hi _ (by rw [lmW_ne (by decide)]; exact hm) (by rw [lmB_lmW _ _ _ _ _ _ hC7 hn, lmW_s]; exact K)) () ?_
  refine ev_iload_n_3 (pc := 7) dX0_bestParting_7 ?_
  refine ev_iload_n_2 (pc := 8) dX0_bestParting_8 ?_
  refine ev_icmp_gt (pc := 9) (tgt := 30) dX0_bestParting_9 (by decide) (fun h9 => ?_) (fun h9 => by exact absurd (nI_lt (by omega) (by omega)) h9)
  refine ev_iconst (pc := 30) (v := 0) dX0_bestParting_30 (by decide) ?_
  refine ev_istore_n_3 (pc := 31) dX0_bestParting_31 (by decide) ?_
  refine ev_iconst (pc := 32) (v := 1) dX0_bestParting_32 (by decide) ?_
  refine ev_istore_4 (pc := 33) dX0_bestParting_33 (by decide) ?_
  have hm2 : (lmW σ (lmF σ C n) (2 ^ n)).1 5 1 = nI n := by rw [lmW_ne (by decide)]; exact hm
  refine for_up2 (2 ^ n - 1) (fun i a => Ev S RX0 cX0_bestParting 5 (some .int) 4 35 [.ref 5, .ref C, .int (nI (2 ^ n - 1)), .int (nI a), .int (nI (i + 1))] [] (lmW σ (lmF σ C n) (2 ^ n)) (Is (some (.int (nI (bpB σ C n)))) (lmW σ (lmF σ C n) (2 ^ n)))) (bpS n ((lmW σ (lmF σ C n) (2 ^ n)).1 7)) 0 (fun i hi K => b2_X0_bestParting hC hC7 n hn i hi _ (bpI_lt h00 i (by omega)) _ hm2 K) ?_
  rw [show 2 ^ n - 1 + 1 = 2 ^ n by omega]
  refine ev_iload_4 (pc := 35) dX0_bestParting_35 ?_
  refine ev_iload_n_2 (pc := 37) dX0_bestParting_37 ?_
  refine ev_icmp_gt (pc := 38) (tgt := 64) dX0_bestParting_38 (by decide) (fun h38 => ?_) (fun h38 => by exact absurd (nI_lt (by omega) (by omega)) h38)
  refine ev_iload_n_3 (pc := 64) dX0_bestParting_64 ?_
  exact ev_ireturn (pc := 65) dX0_bestParting_65 rfl rfl (⟨rfl, rfl⟩)
