/-! ===== the stranger ===== -/
theorem rf15 (i : Nat) : rf 15 i = 101 + i := rfl
theorem rf16 (i : Nat) : rf 16 i = 105 + i := rfl
theorem rf17 (i : Nat) : rf 17 i = 111 + i := rfl
theorem pots_t : ∀ i, i < 4 → 101 + i < NC ∧ kd (101 + i) = 10 ∧ ln (101 + i) = 4 := by decide
theorem aft_t : ∀ i, i < 6 → 105 + i < NC ∧ kd (105 + i) = 10 ∧ ln (105 + i) = 4 := by decide
theorem tal_t : ∀ i, i < 6 → 111 + i < NC ∧ kd (111 + i) = 10 ∧ ln (111 + i) = 9 := by decide
theorem isA_pots {i : Nat} (h : i < 4) : IsA (101 + i) 4 := pots_t i h
theorem isA_aft {i : Nat} (h : i < 6) : IsA (105 + i) 4 := aft_t i h
theorem isA_tal {i : Nat} (h : i < 6) : IsA (111 + i) 9 := tal_t i h
theorem isA_38 : IsA 38 4 := ⟨by decide, by decide, by decide⟩
theorem isTa_37 : IsTa 37 := ⟨6, by decide, rfl⟩
def ntW (σ : Sto) (k : Nat) (m : Int32) : Sto := wr (wr (cp0 σ 40 (101 + k) 4) 14 k m) 13 2 (nI (k + 1))
theorem nI_s1 (k : Nat) : nI k + 1 = nI (k + 1) := (nI_succ k).symm
theorem cp0_ne {σ : Sto} {a b n k : Nat} (h : k ≠ b) : (cp0 σ a b n).1 k = σ.1 k := by funext j; unfold cp0; simp [h]
theorem wr_ne {σ : Sto} {a i k : Nat} {x : Int32} (h : k ≠ a) : (wr σ a i x).1 k = σ.1 k := by funext j; unfold wr; simp [h]
theorem wr_at {σ : Sto} {a i : Nat} {x : Int32} : (wr σ a i x).1 a i = x := by unfold wr; simp
theorem wr_nj {σ : Sto} {a i k j : Nat} {x : Int32} (h : j ≠ i) : (wr σ a i x).1 k j = σ.1 k j := by unfold wr; simp [h]
set_option maxRecDepth 100000 in
theorem m_X4_notice {S : Scr} (k : Nat) (hk : k < 4) (m : Int32) (σ : Sto) (hs : σ.1 13 2 = nI k) : Mt S yX4_notice cX4_notice 3 (some .int) 1 [.ref 13, .ref 40, .int m] σ (Is (some (.int (nI (k + 1)))) (ntW σ k m)) := by
  refine mt_of (ls := [.ref 13, .ref 40, .int m]) (by decide) rfl (Nat.le_of_ble_eq_true rfl) (by simp [Value.category]) ?_
  have e1 : (cp0 σ 40 (101 + k) 4).1 13 2 = nI k := by rw [cp0_ne (by omega)]; exact hs
  have e2 : (wr (cp0 σ 40 (101 + k) 4) 14 k m).1 13 2 = nI k := by rw [wr_ne (by decide)]; exact e1
  refine ev_aload_n_0 (pc := 0) dX4_notice_0 ?_
  refine ev_getI (pc := 1) dX4_notice_1 fl_X4_33 (by decide) (by decide) (by decide) ?_
  refine ev_iconst (pc := 4) (v := 4) dX4_notice_4 (by decide) ?_
  refine ev_icmp_ge (pc := 5) (tgt := 44) dX4_notice_5 (by decide) (fun h5 => by exact absurd h5 (by rw [hs]; exact nI_ge (a := k) (b := 4) hk (by decide))) (fun h5 => ?_)
  refine ev_aload_n_1 (pc := 8) dX4_notice_8 ?_
  refine ev_iconst (pc := 9) (v := 0) dX4_notice_9 (by decide) ?_
  refine ev_aload_n_0 (pc := 10) dX4_notice_10 ?_
  refine ev_getR (pc := 11) (r := 15) dX4_notice_11 fl_X4_17 (by decide) (by decide) (by decide) (by decide) ?_
  refine ev_aload_n_0 (pc := 14) dX4_notice_14 ?_
  refine ev_getI (pc := 15) dX4_notice_15 fl_X4_33 (by decide) (by decide) (by decide) ?_
  rw [hs]
  refine ev_aaload' (pc := 18) (r := (101 + k)) (j := k) dX4_notice_18 (by decide) (c := 12) (by decide) (by decide) (by decide) (show vp_in _ 4 from (vp_in_nI hk (by decide))) (nI_clamp (by omega)) (rf15 k) ?_
  refine ev_iconst (pc := 19) (v := 0) dX4_notice_19 (by decide) ?_
  refine ev_iconst (pc := 20) (v := 4) dX4_notice_20 (by decide) ?_
  refine ev_copy0 (pc := 21) (n' := 4) dX4_notice_21 ml_X4_37 (by decide) (Nat.le_of_ble_eq_true rfl) (by decide) (isA_pots hk).1 (by decide) (isA_pots hk).2.1 (by decide) (by decide) (by decide) (by rw [(isA_pots hk).2.2]; decide) ?_
  refine ev_aload_n_0 (pc := 24) dX4_notice_24 ?_
  
  refine ev_getR (pc := 25) (r := 14) dX4_notice_25 fl_X4_9 (by decide) (by decide) (by decide) (by decide) ?_
  refine ev_aload_n_0 (pc := 28) dX4_notice_28 ?_
  refine ev_getI (pc := 29) dX4_notice_29 fl_X4_33 (by decide) (by decide) (by decide) ?_
  refine ev_iload_n_2 (pc := 32) dX4_notice_32 ?_
  rw [e1]
  refine ev_iastore' (pc := 33) (j := k) dX4_notice_33 (by decide) (by decide) (show vp_in _ 4 from (vp_in_nI hk (by decide))) (nI_clamp (by omega)) ?_
  refine ev_aload_n_0 (pc := 34) dX4_notice_34 ?_
  refine ev_dup (pc := 35) dX4_notice_35 rfl ?_
  refine ev_getI (pc := 36) dX4_notice_36 fl_X4_33 (by decide) (by decide) (by decide) ?_
  refine ev_iconst (pc := 39) (v := 1) dX4_notice_39 (by decide) ?_
  refine ev_iadd (pc := 40) dX4_notice_40 ?_
  rw [e2, nI_s1]
  refine ev_putI (pc := 41) dX4_notice_41 fl_X4_33 (by decide) (by decide) (by decide) ?_
  refine ev_aload_n_0 (pc := 44) dX4_notice_44 ?_
  refine ev_getI (pc := 45) dX4_notice_45 fl_X4_33 (by decide) (by decide) (by decide) ?_
  exact ev_ireturn (pc := 48) dX4_notice_48 rfl rfl (⟨by rw [wr_at], rfl⟩)
def dg (r p : Nat) : Int32 := nI (if p = 0 then r / 216 else if p = 1 then r / 36 % 6 else if p = 2 then r / 6 % 6 else r % 6)
def digW (σ : Sto) (a r : Nat) : Sto := (fun k j => if k = a ∧ j < 4 then dg r j else σ.1 k j, σ.2)
theorem dig_t : ∀ r, r < 1296 → rem6 (nI r) = dg r 3 ∧ rem6 (nI r / 6) = dg r 2 ∧ rem6 (nI r / 6 / 6) = dg r 1 ∧ rem6 (nI r / 6 / 6 / 6) = dg r 0 := by decide +kernel
theorem rowW_dig {σ : Sto} {a r : Nat} (h : r < 1296) : rowW σ a (nI r) = digW σ a r := by
  obtain ⟨h3, h2, h1, h0⟩ := dig_t r h
  unfold rowW
  rw [h3, h2, h1, h0]
  refine Prod.ext (funext fun k => funext fun j => ?_) rfl
  by_cases hk : k = a
  · subst hk
    rcases j with _ | _ | _ | _ | j <;> first | (simp [wr, digW]; done) | (simp [wr, digW]; intro h; omega)
  · simp [wr, digW, hk]
theorem digW_ne {σ : Sto} {a r k : Nat} (h : k ≠ a) : (digW σ a r).1 k = σ.1 k := by funext j; unfold digW; simp [h]
theorem mienD_congr {l l' pot pot' : Nat → Int32} {bl c : Int32} (h : ∀ p, p < 4 → l p = l' p) (h2 : ∀ p, p < 4 → pot p = pot' p) : mienD l bl pot c = mienD l' bl pot' c := by
  have hs : ∀ i, i < 4 → ∀ a, mnS l pot c i a = mnS l' pot' c i a := fun i hi a => by unfold mnS offD; rw [h i hi, h2 i hi]
  unfold mienD
  rw [hs 0 (by decide), hs 1 (by decide), hs 2 (by decide), hs 3 (by decide)]
theorem mienD_dig {σ : Sto} {r : Nat} {bl c : Int32} {pot : Nat → Int32} : mienD ((digW σ 38 r).1 38) bl pot c = mienD (dg r) bl pot c := mienD_congr (fun p hp => by unfold digW; simp [hp]) (fun _ _ => rfl)
abbrev fitP (σ : Sto) (k r : Nat) : Prop := ∀ i, i < k → mienD (dg r) 0 (σ.1 (101 + i)) 0 = σ.1 14 i
set_option maxRecDepth 100000 in
theorem b_X4_fits {S : Scr} (k : Nat) (hk : k ≤ 4) (r i : Nat) (hi : i < k) (σ : Sto) (hs : σ.1 13 2 = nI k) (hb0 : σ.1 37 1 = 0) {Q : Option Value → Sto → Prop} (K : mienD (dg r) 0 (σ.1 (101 + i)) 0 = σ.1 14 i → Ev S RX4 cX4_fits 3 (some .boolean) 2 13 [.ref 13, .int (nI r), .int (nI (i + 1))] [] (digW σ 38 r) (Q)) (hN : ¬ mienD (dg r) 0 (σ.1 (101 + i)) 0 = σ.1 14 i → Q (some (.int 0)) (digW σ 38 r)) : Ev S RX4 cX4_fits 3 (some .boolean) 2 13 [.ref 13, .int (nI r), .int (nI i)] [] (digW σ 38 r) (Q) := by
  have hi4 : i < 4 := by omega
  refine ev_iload_n_2 (pc := 13) dX4_fits_13 ?_
  refine ev_aload_n_0 (pc := 14) dX4_fits_14 ?_
  refine ev_getI (pc := 15) dX4_fits_15 fl_X4_33 (by decide) (by decide) (by decide) ?_
  refine ev_icmp_ge (pc := 18) (tgt := 57) dX4_fits_18 (by decide) (fun h18 => by exact absurd h18 (by rw [digW_ne (by decide), hs]; exact nI_ge hi (by omega))) (fun h18 => ?_)
  refine ev_iload_n_2 (pc := 21) dX4_fits_21 ?_
  refine ev_iconst (pc := 22) (v := 4) dX4_fits_22 (by decide) ?_
  refine ev_icmp_ge (pc := 23) (tgt := 57) dX4_fits_23 (by decide) (fun h23 => by exact absurd h23 (nI_ge (a := i) (b := 4) hi4 (by decide))) (fun h23 => ?_)
  refine ev_aload_n_0 (pc := 26) dX4_fits_26 ?_
  refine ev_getR (pc := 27) (r := 37) dX4_fits_27 fl_X4_23 (by decide) (by decide) (by decide) (by decide) ?_
  refine ev_aload_n_0 (pc := 30) dX4_fits_30 ?_
  refine ev_getR (pc := 31) (r := 15) dX4_fits_31 fl_X4_17 (by decide) (by decide) (by decide) (by decide) ?_
  refine ev_iload_n_2 (pc := 34) dX4_fits_34 ?_
  refine ev_aaload' (pc := 35) (r := (101 + i)) (j := i) dX4_fits_35 (by decide) (c := 12) (by decide) (by decide) (by decide) (show vp_in _ 4 from (vp_in_nI (by omega) (by decide))) (nI_clamp (by omega)) (rf15 i) ?_
  refine ev_iconst (pc := 36) (v := 0) dX4_fits_36 (by decide) ?_
  refine ev_callV1 (pc := 37) dX4_fits_37 ml_X4_50 (m_X5_mien isTa_37 (isA_pots hi4) 0 _) (by decide) ⟨_, rfl, rfl⟩ rfl (by decide) rfl (Nat.le_of_ble_eq_true rfl) ?_
  rw [digW_ne (show 37 ≠ 38 by decide), digW_ne (show 101 + i ≠ 38 by omega), mienD_dig, hb0]
  refine ev_aload_n_0 (pc := 40) dX4_fits_40 ?_
  refine ev_getR (pc := 41) (r := 14) dX4_fits_41 fl_X4_9 (by decide) (by decide) (by decide) (by decide) ?_
  refine ev_iload_n_2 (pc := 44) dX4_fits_44 ?_
  refine ev_iaload' (pc := 45) (j := i) dX4_fits_45 (by decide) (by decide) (show vp_in _ 4 from (vp_in_nI (by omega) (by decide))) (nI_clamp (by omega)) ?_
  rw [digW_ne (show 14 ≠ 38 by decide)]
  refine ev_icmp_eq (pc := 46) (tgt := 51) dX4_fits_46 (by decide) (fun h46 => ?_) (fun h46 => ?_)
  · skip
    refine ev_iinc_2 (pc := 51) (v := nI (i + 1)) dX4_fits_51 (nI_inc i) (by decide) ?_
    refine ev_goto (pc := 54) (tgt := 13) dX4_fits_54 (by decide) ?_
    exact K h46
  · skip
    refine ev_iconst (pc := 49) (v := 0) dX4_fits_49 (by decide) ?_
    exact ev_ireturn (pc := 50) dX4_fits_50 rfl rfl (hN h46)
theorem m_X4_fits {S : Scr} (k : Nat) (hk : k ≤ 4) (r : Nat) (hr : r < 1296) (σ : Sto) (hs : σ.1 13 2 = nI k) (hb0 : σ.1 37 1 = 0) : Mt S yX4_fits cX4_fits 3 (some .boolean) 2 [.ref 13, .int (nI r)] σ (Is (some (.int (bI (fitP σ k r)))) (digW σ 38 r)) := by
  refine mt_of (ls := [.ref 13, .int (nI r), .null]) (by decide) rfl (Nat.le_of_ble_eq_true rfl) (by simp [Value.category]) ?_
  refine ev_iload_n_1 (pc := 0) dX4_fits_0 ?_
  refine ev_aload_n_0 (pc := 1) dX4_fits_1 ?_
  refine ev_getR (pc := 2) (r := 37) dX4_fits_2 fl_X4_23 (by decide) (by decide) (by decide) (by decide) ?_
  refine ev_getR (pc := 5) (r := 38) dX4_fits_5 fl_X4_43 (by decide) (by decide) (by decide) (by decide) ?_
  refine ev_callN0 (pc := 8) dX4_fits_8 mn_X4_46 (m_X7_rowOf isA_38 _ σ) rfl (by decide) rfl (Nat.le_of_ble_eq_true rfl) ?_
  rw [rowW_dig hr]
  refine ev_iconst (pc := 11) (v := 0) dX4_fits_11 (by decide) ?_
  refine ev_istore_n_2 (pc := 12) dX4_fits_12 (by decide) ?_
  have key : ∀ q i, i + q = k → (∀ b, b < i → mienD (dg r) 0 (σ.1 (101 + b)) 0 = σ.1 14 b) → Ev S RX4 cX4_fits 3 (some .boolean) 2 13 [.ref 13, .int (nI r), .int (nI i)] [] (digW σ 38 r) (Is (some (.int (bI (fitP σ k r)))) (digW σ 38 r)) := by
    intro q
    induction q with
    | zero =>
      intro i hi hall
      obtain rfl : i = k := by omega
      have e : bI (fitP σ i r) = 1 := bI1.mpr hall
      rw [e]
      refine ev_iload_n_2 (pc := 13) dX4_fits_13 ?_
      refine ev_aload_n_0 (pc := 14) dX4_fits_14 ?_
      refine ev_getI (pc := 15) dX4_fits_15 fl_X4_33 (by decide) (by decide) (by decide) ?_
      refine ev_icmp_ge (pc := 18) (tgt := 57) dX4_fits_18 (by decide) (fun h18 => ?_) (fun h18 => by exact absurd (by rw [digW_ne (by decide), hs]; exact nI_le (Nat.le_refl i) (by omega)) h18)
      refine ev_iconst (pc := 57) (v := 1) dX4_fits_57 (by decide) ?_
      exact ev_ireturn (pc := 58) dX4_fits_58 rfl rfl (⟨rfl, rfl⟩)
    | succ q ih =>
      intro i hi hall
      refine b_X4_fits k hk r i (by omega) σ hs hb0 (fun hok => ih (i + 1) (by omega) (fun b hb => by
          rcases Nat.lt_or_ge b i with z | z
          · exact hall b z
          · obtain rfl : b = i := by omega
            exact hok)) (fun hno => ⟨?_, rfl⟩)
      have e : bI (fitP σ k r) = 0 := bI0.mpr (fun h => hno (h i (by omega)))
      rw [e]
  exact key k 0 (by omega) (fun b hb => absurd hb (Nat.not_lt_zero b))
/-- the stranger's own numbers, and his guessed likes -/
def gaW (σ : Sto) (a : (Nat → Int32) × Int32 × Int32 × Int32) : Sto := (fun k j => if k = 13 ∧ j = 4 then a.2.1 else if k = 13 ∧ j = 5 then a.2.2.1 else if k = 13 ∧ j = 6 then a.2.2.2 else if k = 38 then a.1 j else σ.1 k j, σ.2)
def gaS (σ : Sto) (k p r : Nat) (a : (Nat → Int32) × Int32 × Int32 × Int32) : (Nat → Int32) × Int32 × Int32 × Int32 :=
  if fitP σ k r then (fun j => if j < 4 then dg r j else a.1 j, a.2.1 + 1, mnI a.2.2.1 (dg r p), mxI a.2.2.2 (dg r p)) else (fun j => if j < 4 then dg r j else a.1 j, a.2)
theorem gaW_fit (σ : Sto) (a : (Nat → Int32) × Int32 × Int32 × Int32) (k r : Nat) (hk : k ≤ 4) : fitP (gaW σ a) k r ↔ fitP σ k r := by
  have h1 : ∀ i, i < 4 → (gaW σ a).1 (101 + i) = σ.1 (101 + i) := fun i hi => by funext j; unfold gaW; simp [show ¬ 101 + i = 13 by omega, show ¬ 101 + i = 38 by omega]
  have h2 : (gaW σ a).1 14 = σ.1 14 := by funext j; unfold gaW; simp
  constructor
  · intro h i hi; have := h i hi; rw [h1 i (by omega), h2] at this; exact this
  · intro h i hi; rw [h1 i (by omega), h2]; exact h i hi
theorem gaW_dig (σ : Sto) (a : (Nat → Int32) × Int32 × Int32 × Int32) (r : Nat) : digW (gaW σ a) 38 r = gaW σ (fun j => if j < 4 then dg r j else a.1 j, a.2) := by
  refine Prod.ext (funext fun k => funext fun j => ?_) rfl
  by_cases h1 : k = 38
  · subst h1
    by_cases h2 : j < 4 <;> simp [digW, gaW, h2]
  · simp [digW, gaW, h1]
theorem bI_iff {P Q : Prop} [Decidable P] [Decidable Q] (h : P ↔ Q) : bI P = bI Q := by
  unfold bI
  by_cases hp : P
  · rw [if_pos hp, if_pos (h.mp hp)]
  · rw [if_neg hp, if_neg (fun z => hp (h.mpr z))]
set_option maxRecDepth 100000 in
theorem b_X4_gather {S : Scr} (k : Nat) (hk : k ≤ 4) (p : Nat) (hp : p < 4) (r : Nat) (hr : r < 1296) (a : (Nat → Int32) × Int32 × Int32 × Int32) (σ : Sto) (hs : σ.1 13 2 = nI k) (hb0 : σ.1 37 1 = 0) {Q : Option Value → Sto → Prop} (K : Ev S RX4 cX4_gather 3 none 3 17 [.ref 13, .int (nI p), .int (nI (r + 1))] [] (gaW σ (gaS σ k p r a)) (Q)) : Ev S RX4 cX4_gather 3 none 3 17 [.ref 13, .int (nI p), .int (nI r)] [] (gaW σ a) (Q) := by
  refine ev_iload_n_2 (pc := 17) dX4_gather_17 ?_
  refine ev_sipush (pc := 18) (v := 1296) dX4_gather_18 (by decide) ?_
  refine ev_icmp_ge (pc := 21) (tgt := 88) dX4_gather_21 (by decide) (fun h21 => by exact absurd h21 (nI_ge (a := r) (b := 1296) hr (by decide))) (fun h21 => ?_)
  refine ev_aload_n_0 (pc := 24) dX4_gather_24 ?_
  refine ev_iload_n_2 (pc := 25) dX4_gather_25 ?_
  refine ev_callV1 (pc := 26) dX4_gather_26 ml_X4_63 (m_X4_fits k hk r hr _ (by unfold gaW; simpa using hs) (by unfold gaW; simpa using hb0)) (by decide) ⟨_, rfl, rfl⟩ rfl (by decide) rfl (Nat.le_of_ble_eq_true rfl) ?_
  rw [gaW_dig, bI_iff (gaW_fit σ a k r hk)]
  refine ev_if_eq (pc := 29) (tgt := 82) dX4_gather_29 (by decide) (fun h29 => ?_) (fun h29 => ?_)
  · skip
    refine ev_iinc_2 (pc := 82) (v := nI (r + 1)) dX4_gather_82 (nI_inc r) (by decide) ?_
    refine ev_goto (pc := 85) (tgt := 17) dX4_gather_85 (by decide) ?_
    refine ev_eq rfl rfl ?_ K
    rw [bI0] at h29
    unfold gaS
    rw [if_neg h29]
  · skip
    refine ev_aload_n_0 (pc := 32) dX4_gather_32 ?_
    refine ev_dup (pc := 33) dX4_gather_33 rfl ?_
    refine ev_getI (pc := 34) dX4_gather_34 fl_X4_54 (by decide) (by decide) (by decide) ?_
    refine ev_iconst (pc := 37) (v := 1) dX4_gather_37 (by decide) ?_
    refine ev_iadd (pc := 38) dX4_gather_38 ?_
    refine ev_putI (pc := 39) dX4_gather_39 fl_X4_54 (by decide) (by decide) (by decide) ?_
    refine ev_aload_n_0 (pc := 42) dX4_gather_42 ?_
    refine ev_aload_n_0 (pc := 43) dX4_gather_43 ?_
    refine ev_getI (pc := 44) dX4_gather_44 fl_X4_57 (by decide) (by decide) (by decide) ?_
    refine ev_aload_n_0 (pc := 47) dX4_gather_47 ?_
    refine ev_getR (pc := 48) (r := 37) dX4_gather_48 fl_X4_23 (by decide) (by decide) (by decide) (by decide) ?_
    refine ev_getR (pc := 51) (r := 38) dX4_gather_51 fl_X4_43 (by decide) (by decide) (by decide) (by decide) ?_
    refine ev_iload_n_1 (pc := 54) dX4_gather_54 ?_
    refine ev_iaload' (pc := 55) (j := p) dX4_gather_55 (by decide) (by decide) (show vp_in _ 4 from (vp_in_nI hp (by decide))) (nI_clamp (by omega)) ?_
    refine ev_mmin' (pc := 56) dX4_gather_56 ml_X4_67 (by decide) (Nat.le_of_ble_eq_true rfl) ?_
    refine ev_putI (pc := 59) dX4_gather_59 fl_X4_57 (by decide) (by decide) (by decide) ?_
    refine ev_aload_n_0 (pc := 62) dX4_gather_62 ?_
    refine ev_aload_n_0 (pc := 63) dX4_gather_63 ?_
    refine ev_getI (pc := 64) dX4_gather_64 fl_X4_60 (by decide) (by decide) (by decide) ?_
    refine ev_aload_n_0 (pc := 67) dX4_gather_67 ?_
    refine ev_getR (pc := 68) (r := 37) dX4_gather_68 fl_X4_23 (by decide) (by decide) (by decide) (by decide) ?_
    refine ev_getR (pc := 71) (r := 38) dX4_gather_71 fl_X4_43 (by decide) (by decide) (by decide) (by decide) ?_
    refine ev_iload_n_1 (pc := 74) dX4_gather_74 ?_
    refine ev_iaload' (pc := 75) (j := p) dX4_gather_75 (by decide) (by decide) (show vp_in _ 4 from (vp_in_nI hp (by decide))) (nI_clamp (by omega)) ?_
    refine ev_mmax' (pc := 76) dX4_gather_76 ml_X4_73 (by decide) (Nat.le_of_ble_eq_true rfl) ?_
    refine ev_putI (pc := 79) dX4_gather_79 fl_X4_60 (by decide) (by decide) (by decide) ?_
    refine ev_iinc_2 (pc := 82) (v := nI (r + 1)) dX4_gather_82 (nI_inc r) (by decide) ?_
    refine ev_goto (pc := 85) (tgt := 17) dX4_gather_85 (by decide) ?_
    refine ev_eq rfl rfl ?_ K
    rw [bI0] at h29
    unfold gaS
    rw [if_pos (Decidable.not_not.mp h29)]
    refine Prod.ext (funext fun k => funext fun j => ?_) rfl
    by_cases h1 : k = 13
    · subst h1
      by_cases h4 : j = 4
      · subst h4; simp [wr, gaW]
      · by_cases h5 : j = 5
        · subst h5; simp [wr, gaW, hp]
        · by_cases h6 : j = 6
          · subst h6; simp [wr, gaW, hp]
          · simp [wr, gaW, h4, h5, h6]
    · simp [wr, gaW, h1]
abbrev gaB (σ : Sto) (k p : Nat) : (Nat → Int32) × Int32 × Int32 × Int32 := itN (gaS σ k p) 1296 (σ.1 38, 0, 5, 0)
theorem m_X4_gather {S : Scr} (k : Nat) (hk : k ≤ 4) (p : Nat) (hp : p < 4) (σ : Sto) (hs : σ.1 13 2 = nI k) (hb0 : σ.1 37 1 = 0) : Mt S yX4_gather cX4_gather 3 none 3 [.ref 13, .int (nI p)] σ (Is none (gaW σ (gaB σ k p))) := by
  refine mt_of (ls := [.ref 13, .int (nI p), .null]) (by decide) rfl (Nat.le_of_ble_eq_true rfl) (by simp [Value.category]) ?_
  refine ev_aload_n_0 (pc := 0) dX4_gather_0 ?_
  refine ev_iconst (pc := 1) (v := 0) dX4_gather_1 (by decide) ?_
  refine ev_putI (pc := 2) dX4_gather_2 fl_X4_54 (by decide) (by decide) (by decide) ?_
  refine ev_aload_n_0 (pc := 5) dX4_gather_5 ?_
  refine ev_iconst (pc := 6) (v := 5) dX4_gather_6 (by decide) ?_
  refine ev_putI (pc := 7) dX4_gather_7 fl_X4_57 (by decide) (by decide) (by decide) ?_
  refine ev_aload_n_0 (pc := 10) dX4_gather_10 ?_
  refine ev_iconst (pc := 11) (v := 0) dX4_gather_11 (by decide) ?_
  refine ev_putI (pc := 12) dX4_gather_12 fl_X4_60 (by decide) (by decide) (by decide) ?_
  refine ev_iconst (pc := 15) (v := 0) dX4_gather_15 (by decide) ?_
  refine ev_istore_n_2 (pc := 16) dX4_gather_16 (by decide) ?_
  refine ev_eq (σ' := gaW σ (σ.1 38, 0, 5, 0)) rfl rfl (by
    refine Prod.ext (funext fun k => funext fun j => ?_) rfl
    by_cases h1 : k = 13
    · subst h1
      by_cases h4 : j = 4
      · subst h4; simp [wr, gaW]
      · by_cases h5 : j = 5
        · subst h5; simp [wr, gaW]
        · by_cases h6 : j = 6
          · subst h6; simp [wr, gaW]
          · simp [wr, gaW, h4, h5, h6]
    · by_cases h2 : k = 38
      · subst h2; simp [wr, gaW]
      · simp [wr, gaW, h1, h2]) ?_
  refine for_up 1296 (fun i a => Ev S RX4 cX4_gather 3 none 3 17 [.ref 13, .int (nI p), .int (nI i)] [] (gaW σ a) (Is none (gaW σ (gaB σ k p)))) (gaS σ k p) (fun i a hi K => b_X4_gather k hk p hp i hi a σ hs hb0 K) _ ?_
  refine ev_iload_n_2 (pc := 17) dX4_gather_17 ?_
  refine ev_sipush (pc := 18) (v := 1296) dX4_gather_18 (by decide) ?_
  refine ev_icmp_ge (pc := 21) (tgt := 88) dX4_gather_21 (by decide) (fun h21 => ?_) (fun h21 => by exact absurd (by decide) h21)
  exact ev_return (pc := 88) dX4_gather_88 rfl (⟨rfl, rfl⟩)
