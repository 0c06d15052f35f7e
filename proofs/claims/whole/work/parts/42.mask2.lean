/-! ===== the reference: ask, 2 ===== -/
theorem ch_t1 : ∀ v, v ≤ 5 → (nI v < 5 → nI v + 1 = mnI 5 (nI v + 1)) ∧ (¬ nI v < 5 → nI v = mnI 5 (nI v + 1)) ∧ (if nI v ≤ 0 then nI v else nI v - 1) = mxI 0 (nI v - 1) := by decide +kernel
theorem ch_t2 : ∀ a, a ≤ 5 → ∀ b, b ≤ 5 → ∀ c, c ≤ 5 → ∀ d, d ≤ 5 → (0 + nI a + nI b + nI c + nI d ≤ 0 ↔ a = 0 ∧ b = 0 ∧ c = 0 ∧ d = 0) := by
  intro a ha b hb c hc d hd
  rw [nI_zadd, nI_add, nI_add, nI_add, tI_le, nI_toInt (by omega), Int32.toInt_zero]
  omega
theorem tot_z {s : Scn} (h : okS s) (hz : totA s ≤ 0) : ∀ p, p < 4 → s.1 p = 0 := by
  obtain ⟨a, ha, ea⟩ := h.1 0 (by decide)
  obtain ⟨b, hb, eb⟩ := h.1 1 (by decide)
  obtain ⟨c, hc, ec⟩ := h.1 2 (by decide)
  obtain ⟨d, hd, ed⟩ := h.1 3 (by decide)
  unfold totA at hz
  rw [ea, eb, ec, ed] at hz
  obtain ⟨rfl, rfl, rfl, rfl⟩ := (ch_t2 a ha b hb c hc d hd).mp hz
  intro p hp
  match p, hp with
  | 0, _ => exact ea
  | 1, _ => exact eb
  | 2, _ => exact ec
  | 3, _ => exact ed
theorem ch_yes {s : Scn} (h : okS s) {d : Nat} (hd : d < 5) (hc : cbP s d) {p : Nat} (hp : p < 4) : dsF s.1 d p = chF s.1 d p := by
  obtain ⟨v, hv, e⟩ := h.1 p hp
  unfold dsF chF
  by_cases z : d = 4
  · rw [if_neg (by omega), if_pos z, if_pos z, e]; exact (ch_t1 v hv).2.2
  · rw [if_neg z]
    by_cases y : d = p
    · rw [if_pos y, if_neg z, if_pos y.symm, e]
      have : s.1 d < 5 := by unfold cbP at hc; rw [if_neg z] at hc; exact hc
      rw [y, e] at this
      exact (ch_t1 v hv).1 this
    · rw [if_neg y, if_neg z, if_neg (Ne.symm y)]
theorem ch_no {s : Scn} (h : okS s) {d : Nat} (hd : d < 6) (hc : d < 5 → ¬ cbP s d) {p : Nat} (hp : p < 4) : s.1 p = chF s.1 d p := by
  obtain ⟨v, hv, e⟩ := h.1 p hp
  unfold chF
  by_cases z : d = 4
  · have := hc (by omega)
    unfold cbP at this
    rw [if_pos z] at this
    rw [if_pos z, tot_z h (Decidable.not_not.mp this) p hp]; decide
  · rw [if_neg z]
    by_cases y : p = d
    · have := hc (by omega)
      unfold cbP at this
      rw [if_neg z, ← y, e] at this
      rw [if_pos y, e]
      exact (ch_t1 v hv).2.1 this
    · rw [if_neg y]
theorem ch_sm {s : Scn} (h : okS s) (d : Nat) : ∀ p, p < 4 → ∃ v, v ≤ 6 ∧ chF s.1 d p = nI v := by
  intro p hp
  obtain ⟨v, hv, e⟩ := h.1 p hp
  have t : ∀ v, v ≤ 5 → (∃ w, w ≤ 6 ∧ mxI 0 (nI v - 1) = nI w) ∧ ∃ w, w ≤ 6 ∧ mnI 5 (nI v + 1) = nI w := fun v hv =>
    ⟨(by decide +kernel : ∀ v, v ≤ 5 → ∃ w, w < 7 ∧ mxI 0 (nI v - 1) = nI w) v hv |>.imp (fun w z => ⟨by omega, z.2⟩), (by decide +kernel : ∀ v, v ≤ 5 → ∃ w, w < 7 ∧ mnI 5 (nI v + 1) = nI w) v hv |>.imp (fun w z => ⟨by omega, z.2⟩)⟩
  unfold chF
  rw [e]
  split
  · exact (t v hv).1
  · split
    · exact (t v hv).2
    · exact ⟨v, by omega, rfl⟩
abbrev gA (A : Abs) (d : Nat) : Int32 := gm (fun m => cntD A d m)
theorem gA_eq (A : Abs) (d : Nat) : gm (cnF A (chF (aC A).1 d) 1296) = gA A d := rfl
theorem gA_lt (A : Abs) (d : Nat) : ¬ 1297 ≤ gA A d := by
  have : gA A d ≤ nI 1296 := (gmN_iff _ _ 9).mpr ⟨by decide, fun m hm => by
    obtain ⟨k, hk, e⟩ := cn_sm A (chF (aC A).1 d) m 1296
    show cnF A (chF (aC A).1 d) 1296 m ≤ _
    rw [e]; exact nI_le hk (by decide)⟩
  rw [tI_le, nI_toInt (by decide)] at this
  rw [tI_le, show (1297 : Int32).toInt = 1297 from rfl]; omega
theorem li_rws (A : Abs) (p : Nat) : (liA A p).1 = rwsA A := by
  have : ∀ n, (itN (liS A p) n (0, 5, 0)).1 = itN (fun r a => if fitA A r then a + 1 else a) n 0 := by
    intro n
    induction n with
    | zero => rfl
    | succ n ih =>
      show (if fitA A n then _ else itN (liS A p) n (0, 5, 0)).1 = if fitA A n then itN (fun r a => if fitA A r then a + 1 else a) n 0 + 1 else itN (fun r a => if fitA A r then a + 1 else a) n 0
      rw [← ih]
      by_cases q : fitA A n
      · rw [if_pos q, if_pos q]
      · rw [if_neg q, if_neg q]
  exact this 1296
theorem lt2 {x : Int32} : 2 ≤ x ↔ 1 < x := by
  rw [tI_le, tI_lt, show (2 : Int32).toInt = 2 from rfl, show (1 : Int32).toInt = 1 from rfl]; omega
theorem lt5 : ∀ d, d < 6 → ¬ 5 ≤ nI d → d < 5 := by decide +kernel
theorem ge5 : ∀ d, d < 6 → 5 ≤ nI d → ¬ d < 5 := by decide +kernel
theorem mls_c {σ τ : Sto} (h : Mls σ τ) : τ.1 120 = σ.1 120 := h.2.2.1 120 (by decide) (by decide)
set_option maxRecDepth 100000 in
theorem t_X8_ask {S : Scr} {A : Abs} (σ : Sto) (d : Nat) (hd : d < 6) (a B : Int32) (x : Value) (ρ : Sto) {Q : Option Value → Sto → Prop} (h : RM A ρ) (hm : Mls σ ρ) (hf : ∀ q, q < 4 → ρ.1 129 (0 + q) = chF (aC A).1 d q) (K1 : B ≤ gA A d → ∀ x τ', RM A τ' → Mls σ τ' → Ev S RX8 cX8_ask 5 (some .int) 4 21 [.ref 117, .int a, .int B, .int (nI (d + 1)), x] [] τ' (Q)) (K2 : ¬ B ≤ gA A d → ∀ x τ', RM A τ' → Mls σ τ' → Ev S RX8 cX8_ask 5 (some .int) 4 21 [.ref 117, .int (nI d), .int (gA A d), .int (nI (d + 1)), x] [] τ' (Q)) : Ev S RX8 cX8_ask 5 (some .int) 4 48 [.ref 117, .int a, .int B, .int (nI d), x] [] ρ (Q) := by
  refine ev_aload_n_0 (pc := 48) dX8_ask_48 ?_
  refine ev_callV1 (pc := 49) dX8_ask_49 ml_X8_212 (m_X8_greatestPart _ ρ h hf (ch_sm h.1.2.2.1 d)) (by decide) ⟨_, rfl, rfl⟩ rfl (by decide) rfl (Nat.le_of_ble_eq_true rfl) ?_
  rw [gA_eq]
  generalize cnF A (chF (aC A).1 d) 1296 = G
  refine ev_istore_4 (pc := 52) dX8_ask_52 (by decide) ?_
  refine ev_iload_4 (pc := 54) dX8_ask_54 ?_
  refine ev_iload_n_2 (pc := 56) dX8_ask_56 ?_
  refine ev_icmp_ge (pc := 57) (tgt := 64) dX8_ask_57 (by decide) (fun h57 => ?_) (fun h57 => ?_)
  · skip
    refine ev_iload_n_1 (pc := 64) dX8_ask_64 ?_
    refine ev_istore_n_1 (pc := 65) dX8_ask_65 (by decide) ?_
    refine ev_iload_4 (pc := 66) dX8_ask_66 ?_
    refine ev_iload_n_2 (pc := 68) dX8_ask_68 ?_
    refine ev_icmp_ge (pc := 69) (tgt := 77) dX8_ask_69 (by decide) (fun h69 => ?_) (fun h69 => ?_)
    · skip
      refine ev_iload_n_2 (pc := 77) dX8_ask_77 ?_
      refine ev_istore_n_2 (pc := 78) dX8_ask_78 (by decide) ?_
      refine ev_iinc_3 (pc := 79) (v := nI (d + 1)) dX8_ask_79 (nI_inc d) (by decide) ?_
      refine ev_goto (pc := 82) (tgt := 21) dX8_ask_82 (by decide) ?_
      exact K1 h57 _ _ (h.mv (mls_pt _ _)) (hm.tr (mls_pt _ _))
    · skip
      refine ev_iload_4 (pc := 72) dX8_ask_72 ?_
      refine ev_goto (pc := 74) (tgt := 78) dX8_ask_74 (by decide) ?_
      refine ev_istore_n_2 (pc := 78) dX8_ask_78 (by decide) ?_
      refine ev_iinc_3 (pc := 79) (v := nI (d + 1)) dX8_ask_79 (nI_inc d) (by decide) ?_
      refine ev_goto (pc := 82) (tgt := 21) dX8_ask_82 (by decide) ?_
      exact absurd h57 h69
  · skip
    refine ev_iload_n_3 (pc := 60) dX8_ask_60 ?_
    refine ev_goto (pc := 61) (tgt := 65) dX8_ask_61 (by decide) ?_
    refine ev_istore_n_1 (pc := 65) dX8_ask_65 (by decide) ?_
    refine ev_iload_4 (pc := 66) dX8_ask_66 ?_
    refine ev_iload_n_2 (pc := 68) dX8_ask_68 ?_
    refine ev_icmp_ge (pc := 69) (tgt := 77) dX8_ask_69 (by decide) (fun h69 => ?_) (fun h69 => ?_)
    · skip
      refine ev_iload_n_2 (pc := 77) dX8_ask_77 ?_
      refine ev_istore_n_2 (pc := 78) dX8_ask_78 (by decide) ?_
      refine ev_iinc_3 (pc := 79) (v := nI (d + 1)) dX8_ask_79 (nI_inc d) (by decide) ?_
      refine ev_goto (pc := 82) (tgt := 21) dX8_ask_82 (by decide) ?_
      exact absurd h69 h57
    · skip
      refine ev_iload_4 (pc := 72) dX8_ask_72 ?_
      refine ev_goto (pc := 74) (tgt := 78) dX8_ask_74 (by decide) ?_
      refine ev_istore_n_2 (pc := 78) dX8_ask_78 (by decide) ?_
      refine ev_iinc_3 (pc := 79) (v := nI (d + 1)) dX8_ask_79 (nI_inc d) (by decide) ?_
      refine ev_goto (pc := 82) (tgt := 21) dX8_ask_82 (by decide) ?_
      exact K2 h57 _ _ (h.mv (mls_pt _ _)) (hm.tr (mls_pt _ _))
set_option maxRecDepth 100000 in
theorem b_X8_ask {S : Scr} {A : Abs} (σ : Sto) (d : Nat) (hd : d < 6) (a B : Int32) (x : Value) (τ : Sto) {Q : Option Value → Sto → Prop} (h : RM A τ) (hm : Mls σ τ) (K1 : B ≤ gA A d → ∀ x τ', RM A τ' → Mls σ τ' → Ev S RX8 cX8_ask 5 (some .int) 4 21 [.ref 117, .int a, .int B, .int (nI (d + 1)), x] [] τ' (Q)) (K2 : ¬ B ≤ gA A d → ∀ x τ', RM A τ' → Mls σ τ' → Ev S RX8 cX8_ask 5 (some .int) 4 21 [.ref 117, .int (nI d), .int (gA A d), .int (nI (d + 1)), x] [] τ' (Q)) : Ev S RX8 cX8_ask 5 (some .int) 4 21 [.ref 117, .int a, .int B, .int (nI d), x] [] τ (Q) := by
  have hN := h.mv (mls_now τ)
  have hS := hm.tr (mls_now τ)
  have ok := h.1.2.2.1
  refine ev_iload_n_3 (pc := 21) dX8_ask_21 ?_
  refine ev_iconst (pc := 22) (v := 5) dX8_ask_22 (by decide) ?_
  refine ev_icmp_gt (pc := 23) (tgt := 85) dX8_ask_23 (by decide) (fun h23 => by exact absurd h23 (Int32.not_lt.mpr (nI_le (a := d) (b := 5) (by omega) (by decide)))) (fun h23 => ?_)
  refine ev_aload_n_0 (pc := 26) dX8_ask_26 ?_
  refine ev_callV0 (pc := 27) dX8_ask_27 ml_X8_157 (m_X8_asItIs τ) (by decide) ⟨_, rfl, rfl⟩ rfl (by decide) rfl (Nat.le_of_ble_eq_true rfl) ?_
  refine ev_iload_n_3 (pc := 30) dX8_ask_30 ?_
  refine ev_iconst (pc := 31) (v := 5) dX8_ask_31 (by decide) ?_
  refine ev_icmp_ge (pc := 32) (tgt := 48) dX8_ask_32 (by decide) (fun h32 => ?_) (fun h32 => ?_)
  · skip
    exact t_X8_ask σ d hd a B x _ hN hS (fun q hq => by rw [Nat.zero_add, h.nwR.potE hq]; exact ch_no ok hd (fun z => absurd z (ge5 d hd h32)) hq) K1 K2
  · skip
    refine ev_aload_n_0 (pc := 35) dX8_ask_35 ?_
    refine ev_iload_n_3 (pc := 36) dX8_ask_36 ?_
    refine ev_callV1 (pc := 37) dX8_ask_37 ml_X8_180 (m_X8_canBe d (lt5 d hd h32) _ h.nwR) (by decide) ⟨_, rfl, rfl⟩ rfl (by decide) rfl (Nat.le_of_ble_eq_true rfl) ?_
    refine ev_if_eq (pc := 40) (tgt := 48) dX8_ask_40 (by decide) (fun h40 => ?_) (fun h40 => ?_)
    · skip
      exact t_X8_ask σ d hd a B x _ hN hS (fun q hq => by rw [Nat.zero_add, h.nwR.potE hq]; exact ch_no ok hd (fun _ => bI0.mp h40) hq) K1 K2
    · skip
      refine ev_aload_n_0 (pc := 43) dX8_ask_43 ?_
      refine ev_iload_n_3 (pc := 44) dX8_ask_44 ?_
      refine ev_callV0 (pc := 45) dX8_ask_45 ml_X8_170 (m_X8_does d hd _) (by decide) ⟨_, rfl, rfl⟩ rfl (by decide) rfl (Nat.le_of_ble_eq_true rfl) ?_
      exact t_X8_ask σ d hd a B x _ (hN.mv (mls_ds _ _ _)) (hS.tr (mls_ds _ _ _)) (fun q hq => by have z := (h.nwR.2.2.1.ds (d := d)).1 q hq; rw [z]; exact ch_yes ok (lt5 d hd h32) (Decidable.not_not.mp (fun z => h40 (bI0.mpr z))) hq) K1 K2
theorem m_X8_ask {S : Scr} {A : Abs} (σ : Sto) (h : RM A σ) : Mt S yX8_ask cX8_ask 5 (some .int) 4 [.ref 117] σ (PM A σ (askA A)) := by
  refine mt_of (ls := [.ref 117, .null, .null, .null, .null]) (by decide) rfl (Nat.le_of_ble_eq_true rfl) (by simp [Value.category]) ?_
  refine ev_aload_n_0 (pc := 0) dX8_ask_0 ?_
  refine ev_iconst (pc := 1) (v := 0) dX8_ask_1 (by decide) ?_
  refine ev_iconst (pc := 2) (v := 0) dX8_ask_2 (by decide) ?_
  refine ev_callV (pc := 3) dX8_ask_3 ml_X8_209 (m_X8_likings0 0 (by decide) σ h) (by decide) ⟨_, rfl, rfl⟩ rfl (by decide) rfl (Nat.le_of_ble_eq_true rfl) ?_
  rintro r τ ⟨hr, h2, hF⟩
  cases hr
  rw [li_rws]
  refine ev_iconst (pc := 6) (v := 2) dX8_ask_6 (by decide) ?_
  refine ev_icmp_ge (pc := 7) (tgt := 13) dX8_ask_7 (by decide) (fun h7 => ?_) (fun h7 => ?_)
  · skip
    refine ev_iconst (pc := 13) (v := 0) dX8_ask_13 (by decide) ?_
    refine ev_istore_n_1 (pc := 14) dX8_ask_14 (by decide) ?_
    refine ev_sipush (pc := 15) (v := 1297) dX8_ask_15 (by decide) ?_
    refine ev_istore_n_2 (pc := 18) dX8_ask_18 (by decide) ?_
    refine ev_iconst (pc := 19) (v := 0) dX8_ask_19 (by decide) ?_
    refine ev_istore_n_3 (pc := 20) dX8_ask_20 (by decide) ?_
    refine b_X8_ask τ 0 (by decide) 0 1297 _ τ h2 (Mls.rf τ) (fun z => absurd z (gA_lt A 0)) (fun _ x0 τ0 h0 m0 => ?_)
    refine for_up 5 (fun i a => ∀ x τ', RM A τ' → Mls τ τ' → Ev S RX8 cX8_ask 5 (some .int) 4 21 [.ref 117, .int (nI a), .int (gA A a), .int (nI (i + 1)), x] [] τ' (PM A σ (askA A))) (mtS (gA A)) (fun i a hi K x τ' h' m' => b_X8_ask τ (i + 1) (by omega) (nI a) (gA A a) x τ' h' m' (fun z x1 τ1 h1 m1 => ?_) (fun z x1 τ1 h1 m1 => ?_)) 0 (fun x1 τ1 h1 m1 => ?_) x0 τ0 h0 m0
    · have := K x1 τ1 h1 m1
      rw [show mtS (gA A) i a = a from if_pos z] at this
      exact this
    · have := K x1 τ1 h1 m1
      rw [show mtS (gA A) i a = i + 1 from if_neg z] at this
      exact this
    show Ev S RX8 cX8_ask 5 (some .int) 4 21 [.ref 117, .int (nI (mtB (gA A))), .int (gA A (mtB (gA A))), .int (nI 6), x1] [] τ1 (PM A σ (askA A))
    refine ev_iload_n_3 (pc := 21) dX8_ask_21 ?_
    refine ev_iconst (pc := 22) (v := 5) dX8_ask_22 (by decide) ?_
    refine ev_icmp_gt (pc := 23) (tgt := 85) dX8_ask_23 (by decide) (fun h23 => ?_) (fun h23 => by exact absurd h23 (by decide))
    refine ev_iload_n_1 (pc := 85) dX8_ask_85 ?_
    exact ev_ireturn (pc := 86) dX8_ask_86 rfl rfl (⟨by rw [askA, if_pos (lt2.mp h7)], h1, hF.tr m1.fr⟩)
  · skip
    refine ev_bipush (pc := 10) (v := (-9)) dX8_ask_10 (by decide) ?_
    exact ev_ireturn (pc := 12) dX8_ask_12 rfl rfl (⟨by rw [askA, if_neg (fun z => h7 (lt2.mpr z))], h2, hF⟩)
