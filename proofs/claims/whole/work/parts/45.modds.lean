/-! ===== the reference: odds ===== -/
set_option maxRecDepth 100000 in
theorem b_X8_lowest {S : Scr} (u l : Nat) (w : Int32) (a b : Nat) (ha : a < 2 ^ 31) (hb : b < 2 ^ 31) (x : Value) (σ : Sto) {Q : Option Value → Sto → Prop} (K1 : b = 0 → Ev S RX8 cX8_lowest 6 (some .int) 0 26 [.int (nI u), .int (nI l), .int w, .int (nI a), .int (nI b), x] [] σ (Q)) (K2 : 0 < b → ∀ x, Ev S RX8 cX8_lowest 6 (some .int) 0 5 [.int (nI u), .int (nI l), .int w, .int (nI b), .int (nI (a % b)), x] [] σ (Q)) : Ev S RX8 cX8_lowest 6 (some .int) 0 5 [.int (nI u), .int (nI l), .int w, .int (nI a), .int (nI b), x] [] σ (Q) := by
  refine ev_iload_4 (pc := 5) dX8_lowest_5 ?_
  refine ev_if_le (pc := 7) (tgt := 26) dX8_lowest_7 (by decide) (fun h7 => ?_) (fun h7 => ?_)
  · skip
    exact K1 (by rw [tI_le, nI_toInt hb, Int32.toInt_zero] at h7; omega)
  · skip
    have hb0 : 0 < b := Nat.pos_of_ne_zero (fun z => h7 (by rw [z]; exact Int32.le_refl _))
    refine ev_iload_n_3 (pc := 10) dX8_lowest_10 ?_
    refine ev_iload_4 (pc := 11) dX8_lowest_11 ?_
    refine ev_irem (pc := 13) dX8_lowest_13 (fun z => h7 (by rw [z]; exact Int32.le_refl _)) ?_
    rw [pk_rem ha hb0 hb]
    refine ev_istore_5 (pc := 14) dX8_lowest_14 (by decide) ?_
    refine ev_iload_4 (pc := 16) dX8_lowest_16 ?_
    refine ev_istore_n_3 (pc := 18) dX8_lowest_18 (by decide) ?_
    refine ev_iload_5 (pc := 19) dX8_lowest_19 ?_
    refine ev_istore_4 (pc := 21) dX8_lowest_21 (by decide) ?_
    refine ev_goto (pc := 23) (tgt := 5) dX8_lowest_23 (by decide) ?_
    exact K2 hb0 _
theorem l_X8_lowest {S : Scr} (u l : Nat) (w : Int32) (σ : Sto) {Q : Option Value → Sto → Prop} : ∀ b a, a < 2 ^ 31 → b < 2 ^ 31 → ∀ x, (∀ x, Ev S RX8 cX8_lowest 6 (some .int) 0 26 [.int (nI u), .int (nI l), .int w, .int (nI (Nat.gcd a b)), .int (nI 0), x] [] σ (Q)) → Ev S RX8 cX8_lowest 6 (some .int) 0 5 [.int (nI u), .int (nI l), .int w, .int (nI a), .int (nI b), x] [] σ (Q) := by
  intro b
  induction b using Nat.strongRecOn with
  | _ b ih =>
    intro a ha hb x K
    refine b_X8_lowest u l w a b ha hb x σ (fun z => ?_) (fun z x' => ?_)
    · subst z
      rw [Nat.gcd_zero_right] at K
      exact K x
    · have hm : a % b < b := Nat.mod_lt _ z
      refine ih (a % b) hm b hb (by omega) x' (fun y => ?_)
      have e : Nat.gcd b (a % b) = Nat.gcd a b := by rw [Nat.gcd_comm, ← Nat.gcd_rec, Nat.gcd_comm]
      rw [e]
      exact K y
theorem m_X8_lowest {S : Scr} (u l : Nat) (w : Int32) (hu : u < 2 ^ 31) (hl : l < 2 ^ 31) (h0 : 0 < l) (σ : Sto) : Mt S yX8_lowest cX8_lowest 6 (some .int) 0 [.int (nI u), .int (nI l), .int w] σ (Is (some (.int (if w = 0 then nI (u / Nat.gcd u l) else nI (l / Nat.gcd u l)))) σ) := by
  refine mt_of (ls := [.int (nI u), .int (nI l), .int w, .null, .null, .null]) (by decide) rfl (Nat.le_of_ble_eq_true rfl) (by simp [Value.category]) ?_
  have hg : 0 < Nat.gcd u l := Nat.gcd_pos_of_pos_right u h0
  have hg2 : Nat.gcd u l ≤ l := Nat.gcd_le_right u h0
  refine ev_iload_n_0 (pc := 0) dX8_lowest_0 ?_
  refine ev_istore_n_3 (pc := 1) dX8_lowest_1 (by decide) ?_
  refine ev_iload_n_1 (pc := 2) dX8_lowest_2 ?_
  refine ev_istore_4 (pc := 3) dX8_lowest_3 (by decide) ?_
  refine l_X8_lowest u l w σ l u hu hl _ (fun x => ?_)
  refine ev_iload_n_2 (pc := 26) dX8_lowest_26 ?_
  refine ev_if_ne (pc := 27) (tgt := 34) dX8_lowest_27 (by decide) (fun h27 => ?_) (fun h27 => ?_)
  · skip
    refine ev_iload_n_1 (pc := 34) dX8_lowest_34 ?_
    refine ev_iload_n_3 (pc := 35) dX8_lowest_35 ?_
    refine ev_idiv (pc := 36) dX8_lowest_36 (fun z => absurd ((nI_z (by omega)).mp z) (by omega)) ?_
    exact ev_ireturn (pc := 37) dX8_lowest_37 rfl rfl (⟨by rw [if_neg h27, pk_div hl hg (by omega)], rfl⟩)
  · skip
    refine ev_iload_n_0 (pc := 30) dX8_lowest_30 ?_
    refine ev_goto (pc := 31) (tgt := 35) dX8_lowest_31 (by decide) ?_
    refine ev_iload_n_3 (pc := 35) dX8_lowest_35 ?_
    refine ev_idiv (pc := 36) dX8_lowest_36 (fun z => absurd ((nI_z (by omega)).mp z) (by omega)) ?_
    exact ev_ireturn (pc := 37) dX8_lowest_37 rfl rfl (⟨by rw [if_pos h27, pk_div hu hg (by omega)], rfl⟩)
def ccN (A : Abs) (c : Int32) (b : Nat) : Nat := if mienD (aL A b) (aB A b) (aC A).1 c = 0 then 1 else 0
theorem cc01 (A : Abs) (c : Int32) (b : Nat) : ccN A c b = 0 ∨ ccN A c b = 1 := by unfold ccN; split; exact Or.inr rfl; exact Or.inl rfl
def csN (A : Abs) (x b : Nat) : Nat := ccN A 1 b * x + ccN A 0 b * (10 - x)
theorem cs10 (A : Abs) {x : Nat} (hx : x ≤ 10) (b : Nat) : csN A x b ≤ 10 := by
  unfold csN
  rcases cc01 A 1 b with e | e <;> rcases cc01 A 0 b with f | f <;> rw [e, f] <;> omega
theorem clm_cs (A : Abs) {x : Nat} (hx : x ≤ 10) (b : Nat) : clmA A (nI x) b = nI (csN A x b) := by
  have es : (10 : Int32) - nI x = nI (10 - x) := nI_sub (a := 10) hx (by decide)
  show (if mienD (aL A b) (aB A b) (aC A).1 1 = 0 then nI x else 0) + (if mienD (aL A b) (aB A b) (aC A).1 0 = 0 then 10 - nI x else 0) = _
  unfold csN ccN
  rw [es]
  by_cases p : mienD (aL A b) (aB A b) (aC A).1 1 = 0 <;> by_cases q : mienD (aL A b) (aB A b) (aC A).1 0 = 0
  · rw [if_pos p, if_pos q, if_pos p, if_pos q, nI_add, Nat.one_mul, Nat.one_mul]
  · rw [if_pos p, if_neg q, if_pos p, if_neg q, Nat.one_mul, Nat.zero_mul, Nat.add_zero]; exact nI_addz x
  · rw [if_neg p, if_pos q, if_neg p, if_pos q, Nat.one_mul, Nat.zero_mul, Nat.zero_add]; exact nI_zadd (10 - x)
  · rw [if_neg p, if_neg q, if_neg p, if_neg q, Nat.zero_mul, Nat.zero_mul]; rfl
theorem cw_wN (A : Abs) {x : Nat} (hx : x ≤ 10) : ∀ n j, itN (fun b w => cwStep (clmA A (nI x) b) b w) n (fun j => if j = 0 then 1 else 0) j = nI (wN (csN A x) n j) := by
  intro n
  induction n with
  | zero => intro j; show (if j = 0 then (1 : Int32) else 0) = nI (if j = 0 then 1 else 0); split <;> rfl
  | succ n ih =>
    intro j
    show cwStep (clmA A (nI x) n) n (itN (fun b w => cwStep (clmA A (nI x) b) b w) n (fun j => if j = 0 then 1 else 0)) j = _
    have es : (10 : Int32) - clmA A (nI x) n = nI (10 - csN A x n) := by rw [clm_cs A hx]; exact nI_sub (a := 10) (cs10 A hx n) (by decide)
    generalize itN (fun b w => cwStep (clmA A (nI x) b) b w) n (fun j => if j = 0 then 1 else 0) = W at ih
    unfold cwStep
    rw [es, clm_cs A hx]
    show _ = nI (wN (csN A x) n j * (10 - csN A x n) + (if j = 0 then 0 else wN (csN A x) n (j - 1)) * csN A x n)
    by_cases z : j = 0
    · rw [if_pos z, if_pos z, ih, nI_mul, Nat.zero_mul, Nat.add_zero, z]
    · rw [if_neg z, if_neg z]
      by_cases y : j ≤ n + 1
      · rw [if_pos y, ih, ih, nI_mul, nI_mul, nI_add]
      · rw [if_neg y, ih, wN_z _ n j (by omega), wN_z _ n (j - 1) (by omega), Nat.zero_mul, Nat.zero_mul]
theorem wf_SS (f : Nat → Nat) (k : Nat) : wfD (fun j => nI (f j)) k = nI (SS f k (7 - k)) := by
  have : ∀ d, itN (fun i a => a + nI (f (k + i))) d 0 = nI (SS f k d) := by
    intro d
    induction d with
    | zero => rfl
    | succ d ih => show itN _ d 0 + nI (f (k + d)) = nI (SS f k d + f (k + d)); rw [ih, nI_add]
  exact this _
theorem wf_VN (A : Abs) {x : Nat} (hx : x ≤ 10) (k : Nat) : wfD (cwA A (nI x)) k = nI (VN (csN A x) (aN A) k) := by
  have e : cwA A (nI x) = fun j => nI (wN (csN A x) (aN A) j) := funext (cw_wN A hx (aN A))
  rw [e, wf_SS]; rfl
theorem SS_cut (g : Nat → Nat) (k : Nat) : ∀ d, SS g 0 (k + d) = SS g 0 k + SS g k d := by
  intro d
  induction d with
  | zero => rfl
  | succ d ih => show SS g 0 (k + d) + g (0 + (k + d)) = SS g 0 k + (SS g k d + g (k + d)); rw [ih, Nat.zero_add]; omega
theorem VN_le (cs : Nat → Nat) (n : Nat) {k : Nat} (hk : k ≤ 7) : VN cs n k ≤ VN cs n 0 := by
  unfold VN
  have := SS_cut (wN cs n) k (7 - k)
  rw [show k + (7 - k) = 7 by omega] at this
  rw [Nat.sub_zero]; omega
abbrev uN (A : Abs) (x k : Nat) : Nat := UN (ccN A 0) (ccN A 1) x (aN A) k
theorem pow10 : ∀ n, n ≤ 6 → 10 ^ n < 2 ^ 31 ∧ 0 < 10 ^ n := by decide +kernel
theorem uN_eq {A : Abs} (hn : aN A ≤ 6) {x : Nat} (hx : x ≤ 10) {k : Nat} (hk : k ≤ 7) : uN A x k = VN (csN A x) (aN A) k := UN_VN _ _ _ x hx (cc01 A 0) (cc01 A 1) (fun _ => rfl) _ hn k hk
theorem uN_lt {A : Abs} (hn : aN A ≤ 6) {x : Nat} (hx : x ≤ 10) {k : Nat} (hk : k ≤ 7) : uN A x k < 2 ^ 31 := by
  have h1 := VN_le (csN A x) (aN A) hk
  rw [VN_all _ (cs10 A hx) _ hn] at h1
  have h2 := (pow10 _ hn).1
  rw [uN_eq hn hx hk]; omega
theorem odds_eq {A : Abs} (hn : aN A ≤ 6) {x : Nat} (hx : x ≤ 10) {k : Nat} (hk : k ≤ 7) (w : Int32) : (if w = 0 then nI (uN A x k / Nat.gcd (uN A x k) (10 ^ aN A)) else nI (10 ^ aN A / Nat.gcd (uN A x k) (10 ^ aN A))) = iltD (wfD (cwA A (nI x)) k) (wfD (cwA A (nI x)) 0) w := by
  have hu := uN_lt hn hx hk
  have hl := (pow10 _ hn).1
  obtain ⟨e1, e2⟩ := lt_sp (u := uN A x k) hn
  rw [e1, e2]
  unfold iltD
  rw [wf_VN A hx, wf_VN A hx, VN_all _ (cs10 A hx) _ hn, ← uN_eq hn hx hk]
  have r2 : redI 2 6 (nI (uN A x k), nI (10 ^ aN A)) = _ := red_IN (p := 2) (by decide) (by decide) 6 (uN A x k, 10 ^ aN A) hu hl
  rw [r2]
  obtain ⟨g, a1, a2, -⟩ := red_sp (p := 2) (by decide) 6 (uN A x k, 10 ^ aN A)
  have hp := (pow10 _ hn).2
  have g0 : 0 < g := Nat.pos_of_ne_zero (fun z => by rw [z, Nat.zero_mul] at a2; have a2' : 10 ^ aN A = 0 := a2; omega)
  have b1 : (redN 2 6 (uN A x k, 10 ^ aN A)).1 < 2 ^ 31 := Nat.lt_of_le_of_lt (by conv => rhs; rw [show uN A x k = _ from a1]
                                                                                  exact Nat.le_mul_of_pos_left _ g0) hu
  have b2 : (redN 2 6 (uN A x k, 10 ^ aN A)).2 < 2 ^ 31 := Nat.lt_of_le_of_lt (by conv => rhs; rw [show 10 ^ aN A = _ from a2]
                                                                                  exact Nat.le_mul_of_pos_left _ g0) hl
  have r5 := red_IN (p := 5) (by decide) (by decide) 6 (redN 2 6 (uN A x k, 10 ^ aN A)) b1 b2
  rw [show redI 5 6 _ = _ from r5]
theorem bit_tb : ∀ s, s < 64 → ∀ b, b < 6 → (bit (nI s) b ↔ tb s b) := by decide +kernel
theorem sh_n : ∀ n, n ≤ 6 → (1 : Int32) <<< (nI n &&& 31) = nI (2 ^ n) := by decide +kernel
theorem bI01 {P : Prop} [Decidable P] : bI P = 0 ∨ bI P = 1 := by unfold bI; split; exact Or.inr rfl; exact Or.inl rfl
theorem nwR.mienC {A : Abs} {σ : Sto} {s : Scn} (h : nwR A σ s) {b : Nat} (hb : b < aN A) (c : Int32) : mienD (fun p => σ.1 118 (4 * b + p)) (σ.1 119 b) (σ.1 129) c = mienD (aL A b) (aB A b) s.1 c := by
  rw [(h.2.1.2 b hb).2]
  exact mienD_congr (h.2.1.2 b hb).1 (fun p hp => h.potE hp)
theorem ct_lt {A : Abs} {s : Nat} : ∀ b, cnN (ccN A 0) (ccN A 1) s b ≤ b := by
  intro b
  induction b with
  | zero => exact Nat.le_refl 0
  | succ b ih =>
    show cnN _ _ s b + (if tb s b then ccN A 1 b else ccN A 0 b) ≤ b + 1
    have h0 := cc01 A 0 b
    have h1 := cc01 A 1 b
    split <;> omega
set_option maxRecDepth 100000 in
theorem b2_X8_odds {S : Scr} {A : Abs} (x : Nat) (hx : x ≤ 10) (k : Nat) (hk : k < 7) (w : Int32) (s : Nat) (hs : s < 64) (b : Nat) (hb : b < aN A) (σ : Sto) {Q : Option Value → Sto → Prop} (h : nwR A σ (aC A)) (K : Ev S RX8 cX8_odds 10 (some .int) 3 89 [.ref 117, .int (nI x), .int (nI k), .int w, .int (nI (SS (trm (ccN A 0) (ccN A 1) x (aN A) k) 0 s)), .int (nI (10 ^ aN A)), .int (nI s), .int (nI (wtN x s (b + 1))), .int (nI (cnN (ccN A 0) (ccN A 1) s (b + 1))), .int (nI (b + 1))] [] σ (Q)) : Ev S RX8 cX8_odds 10 (some .int) 3 89 [.ref 117, .int (nI x), .int (nI k), .int w, .int (nI (SS (trm (ccN A 0) (ccN A 1) x (aN A) k) 0 s)), .int (nI (10 ^ aN A)), .int (nI s), .int (nI (wtN x s b)), .int (nI (cnN (ccN A 0) (ccN A 1) s b)), .int (nI b)] [] σ (Q) := by
  have hb6 : b < 6 := Nat.lt_of_lt_of_le hb h.1
  have hB := bit_tb s hs b hb6
  refine ev_iload_9 (pc := 89) dX8_odds_89 ?_
  refine ev_aload_n_0 (pc := 91) dX8_odds_91 ?_
  refine ev_getI (pc := 92) dX8_odds_92 fl_X8_50 (by decide) (by decide) (by decide) ?_
  refine ev_icmp_ge (pc := 95) (tgt := 153) dX8_odds_95 (by decide) (fun h95 => by exact absurd h95 (by rw [h.2.1.1]; exact nI_ge hb (by have := h.1; omega))) (fun h95 => ?_)
  refine ev_iload_7 (pc := 98) dX8_odds_98 ?_
  refine ev_iload_6 (pc := 100) dX8_odds_100 ?_
  refine ev_iload_9 (pc := 102) dX8_odds_102 ?_
  refine ev_callS1 (pc := 104) dX8_odds_104 ml_X8_133 (m_X8_has _ b σ) rfl (by decide) rfl (Nat.le_of_ble_eq_true rfl) ?_
  refine ev_if_eq (pc := 107) (tgt := 114) dX8_odds_107 (by decide) (fun h107 => ?_) (fun h107 => ?_)
  · skip
    refine ev_bipush (pc := 114) (v := 10) dX8_odds_114 (by decide) ?_
    refine ev_iload_n_1 (pc := 116) dX8_odds_116 ?_
    refine ev_isubc (pc := 117) (v := nI (10 - x)) dX8_odds_117 (nI_sub (a := 10) hx (by decide)) ?_
    refine ev_imulc (pc := 118) (v := nI ((wtN x s b) * (10 - x))) dX8_odds_118 (nI_mul (wtN x s b) (10 - x)) ?_
    refine ev_istore_7 (pc := 119) dX8_odds_119 (by decide) ?_
    refine ev_iload_8 (pc := 121) dX8_odds_121 ?_
    refine ev_aload_n_0 (pc := 123) dX8_odds_123 ?_
    refine ev_iload_9 (pc := 124) dX8_odds_124 ?_
    refine ev_iload_6 (pc := 126) dX8_odds_126 ?_
    refine ev_iload_9 (pc := 128) dX8_odds_128 ?_
    refine ev_callS1 (pc := 130) dX8_odds_130 ml_X8_133 (m_X8_has _ b σ) rfl (by decide) rfl (Nat.le_of_ble_eq_true rfl) ?_
    refine ev_callV1 (pc := 133) dX8_odds_133 ml_X8_137 (m_X8_mienBy b hb6 _ bI01 σ) (by decide) ⟨_, rfl, rfl⟩ rfl (by decide) rfl (Nat.le_of_ble_eq_true rfl) ?_
    rw [h.mienC hb]
    refine ev_if_ne (pc := 136) (tgt := 143) dX8_odds_136 (by decide) (fun h136 => ?_) (fun h136 => ?_)
    · skip
      refine ev_iconst (pc := 143) (v := 0) dX8_odds_143 (by decide) ?_
      refine ev_iaddc (pc := 144) (v := nI (cnN (ccN A 0) (ccN A 1) s b)) dX8_odds_144 (nI_addz (cnN (ccN A 0) (ccN A 1) s b)) ?_
      refine ev_istore_8 (pc := 145) dX8_odds_145 (by decide) ?_
      refine ev_iinc_9 (pc := 147) (v := nI (b + 1)) dX8_odds_147 (nI_inc b) (by decide) ?_
      refine ev_goto (pc := 150) (tgt := 89) dX8_odds_150 (by decide) ?_
      have ht : ¬ tb s b := fun z => bI0.mp h107 (hB.mpr z)
      rw [bI_f (fun z => ht (hB.mp z))] at h136
      refine ev_eq ?_ rfl rfl K
      rw [show wtN x s (b + 1) = wtN x s b * (10 - x) from by show _ * (if tb s b then _ else _) = _; rw [if_neg ht], show cnN (ccN A 0) (ccN A 1) s (b + 1) = cnN (ccN A 0) (ccN A 1) s b + 0 from by show _ + (if tb s b then _ else _) = _; rw [if_neg ht, ccN, if_neg h136]]
      rfl
    · skip
      refine ev_iconst (pc := 139) (v := 1) dX8_odds_139 (by decide) ?_
      refine ev_goto (pc := 140) (tgt := 144) dX8_odds_140 (by decide) ?_
      refine ev_iaddc (pc := 144) (v := nI ((cnN (ccN A 0) (ccN A 1) s b) + 1)) dX8_odds_144 (nI_add (cnN (ccN A 0) (ccN A 1) s b) 1) ?_
      refine ev_istore_8 (pc := 145) dX8_odds_145 (by decide) ?_
      refine ev_iinc_9 (pc := 147) (v := nI (b + 1)) dX8_odds_147 (nI_inc b) (by decide) ?_
      refine ev_goto (pc := 150) (tgt := 89) dX8_odds_150 (by decide) ?_
      have ht : ¬ tb s b := fun z => bI0.mp h107 (hB.mpr z)
      rw [bI_f (fun z => ht (hB.mp z))] at h136
      refine ev_eq ?_ rfl rfl K
      rw [show wtN x s (b + 1) = wtN x s b * (10 - x) from by show _ * (if tb s b then _ else _) = _; rw [if_neg ht], show cnN (ccN A 0) (ccN A 1) s (b + 1) = cnN (ccN A 0) (ccN A 1) s b + 1 from by show _ + (if tb s b then _ else _) = _; rw [if_neg ht, ccN, if_pos h136]]
  · skip
    refine ev_iload_n_1 (pc := 110) dX8_odds_110 ?_
    refine ev_goto (pc := 111) (tgt := 118) dX8_odds_111 (by decide) ?_
    refine ev_imulc (pc := 118) (v := nI ((wtN x s b) * x)) dX8_odds_118 (nI_mul (wtN x s b) x) ?_
    refine ev_istore_7 (pc := 119) dX8_odds_119 (by decide) ?_
    refine ev_iload_8 (pc := 121) dX8_odds_121 ?_
    refine ev_aload_n_0 (pc := 123) dX8_odds_123 ?_
    refine ev_iload_9 (pc := 124) dX8_odds_124 ?_
    refine ev_iload_6 (pc := 126) dX8_odds_126 ?_
    refine ev_iload_9 (pc := 128) dX8_odds_128 ?_
    refine ev_callS1 (pc := 130) dX8_odds_130 ml_X8_133 (m_X8_has _ b σ) rfl (by decide) rfl (Nat.le_of_ble_eq_true rfl) ?_
    refine ev_callV1 (pc := 133) dX8_odds_133 ml_X8_137 (m_X8_mienBy b hb6 _ bI01 σ) (by decide) ⟨_, rfl, rfl⟩ rfl (by decide) rfl (Nat.le_of_ble_eq_true rfl) ?_
    rw [h.mienC hb]
    refine ev_if_ne (pc := 136) (tgt := 143) dX8_odds_136 (by decide) (fun h136 => ?_) (fun h136 => ?_)
    · skip
      refine ev_iconst (pc := 143) (v := 0) dX8_odds_143 (by decide) ?_
      refine ev_iaddc (pc := 144) (v := nI (cnN (ccN A 0) (ccN A 1) s b)) dX8_odds_144 (nI_addz (cnN (ccN A 0) (ccN A 1) s b)) ?_
      refine ev_istore_8 (pc := 145) dX8_odds_145 (by decide) ?_
      refine ev_iinc_9 (pc := 147) (v := nI (b + 1)) dX8_odds_147 (nI_inc b) (by decide) ?_
      refine ev_goto (pc := 150) (tgt := 89) dX8_odds_150 (by decide) ?_
      have ht : tb s b := hB.mp (Decidable.not_not.mp (fun z => h107 (bI0.mpr z)))
      rw [bI_t (hB.mpr ht)] at h136
      refine ev_eq ?_ rfl rfl K
      rw [show wtN x s (b + 1) = wtN x s b * x from by show _ * (if tb s b then _ else _) = _; rw [if_pos ht], show cnN (ccN A 0) (ccN A 1) s (b + 1) = cnN (ccN A 0) (ccN A 1) s b + 0 from by show _ + (if tb s b then _ else _) = _; rw [if_pos ht, ccN, if_neg h136]]
      rfl
    · skip
      refine ev_iconst (pc := 139) (v := 1) dX8_odds_139 (by decide) ?_
      refine ev_goto (pc := 140) (tgt := 144) dX8_odds_140 (by decide) ?_
      refine ev_iaddc (pc := 144) (v := nI ((cnN (ccN A 0) (ccN A 1) s b) + 1)) dX8_odds_144 (nI_add (cnN (ccN A 0) (ccN A 1) s b) 1) ?_
      refine ev_istore_8 (pc := 145) dX8_odds_145 (by decide) ?_
      refine ev_iinc_9 (pc := 147) (v := nI (b + 1)) dX8_odds_147 (nI_inc b) (by decide) ?_
      refine ev_goto (pc := 150) (tgt := 89) dX8_odds_150 (by decide) ?_
      have ht : tb s b := hB.mp (Decidable.not_not.mp (fun z => h107 (bI0.mpr z)))
      rw [bI_t (hB.mpr ht)] at h136
      refine ev_eq ?_ rfl rfl K
      rw [show wtN x s (b + 1) = wtN x s b * x from by show _ * (if tb s b then _ else _) = _; rw [if_pos ht], show cnN (ccN A 0) (ccN A 1) s (b + 1) = cnN (ccN A 0) (ccN A 1) s b + 1 from by show _ + (if tb s b then _ else _) = _; rw [if_pos ht, ccN, if_pos h136]]
set_option maxRecDepth 100000 in
theorem b3_X8_odds {S : Scr} {A : Abs} (x : Nat) (hx : x ≤ 10) (k : Nat) (hk : k < 7) (w : Int32) (s : Nat) (hs : s < 2 ^ aN A) (y7 y8 y9 : Value) (σ : Sto) {Q : Option Value → Sto → Prop} (h : nwR A σ (aC A)) (K : ∀ y7 y8 y9, Ev S RX8 cX8_odds 10 (some .int) 3 69 [.ref 117, .int (nI x), .int (nI k), .int w, .int (nI (SS (trm (ccN A 0) (ccN A 1) x (aN A) k) 0 (s + 1))), .int (nI (10 ^ aN A)), .int (nI (s + 1)), y7, y8, y9] [] σ (Q)) : Ev S RX8 cX8_odds 10 (some .int) 3 69 [.ref 117, .int (nI x), .int (nI k), .int w, .int (nI (SS (trm (ccN A 0) (ccN A 1) x (aN A) k) 0 s)), .int (nI (10 ^ aN A)), .int (nI s), y7, y8, y9] [] σ (Q) := by
  have hp := pow_n _ h.1
  refine ev_iload_6 (pc := 69) dX8_odds_69 ?_
  refine ev_iconst (pc := 71) (v := 1) dX8_odds_71 (by decide) ?_
  refine ev_aload_n_0 (pc := 72) dX8_odds_72 ?_
  refine ev_getI (pc := 73) dX8_odds_73 fl_X8_50 (by decide) (by decide) (by decide) ?_
  refine ev_ishl (pc := 76) dX8_odds_76 ?_
  rw [h.2.1.1, sh_n _ h.1]
  refine ev_icmp_ge (pc := 77) (tgt := 176) dX8_odds_77 (by decide) (fun h77 => by exact absurd h77 (nI_ge hs (by omega))) (fun h77 => ?_)
  refine ev_iconst (pc := 80) (v := 1) dX8_odds_80 (by decide) ?_
  refine ev_istore_7 (pc := 81) dX8_odds_81 (by decide) ?_
  refine ev_iconst (pc := 83) (v := 0) dX8_odds_83 (by decide) ?_
  refine ev_istore_8 (pc := 84) dX8_odds_84 (by decide) ?_
  refine ev_iconst (pc := 86) (v := 0) dX8_odds_86 (by decide) ?_
  refine ev_istore_9 (pc := 87) dX8_odds_87 (by decide) ?_
  have hs64 : s < 64 := by omega
  refine for_up (aN A) (fun b (_ : Unit) => Ev S RX8 cX8_odds 10 (some .int) 3 89 [.ref 117, .int (nI x), .int (nI k), .int w, .int (nI (SS (trm (ccN A 0) (ccN A 1) x (aN A) k) 0 s)), .int (nI (10 ^ aN A)), .int (nI s), .int (nI (wtN x s b)), .int (nI (cnN (ccN A 0) (ccN A 1) s b)), .int (nI b)] [] σ (Q)) (fun _ u => u) (fun b _ hb K => b2_X8_odds x hx k hk w s hs64 b hb σ h K) () ?_
  refine ev_iload_9 (pc := 89) dX8_odds_89 ?_
  refine ev_aload_n_0 (pc := 91) dX8_odds_91 ?_
  refine ev_getI (pc := 92) dX8_odds_92 fl_X8_50 (by decide) (by decide) (by decide) ?_
  refine ev_icmp_ge (pc := 95) (tgt := 153) dX8_odds_95 (by decide) (fun h95 => ?_) (fun h95 => by exact absurd (by rw [h.2.1.1]; exact Int32.le_refl _) h95)
  refine ev_iload_4 (pc := 153) dX8_odds_153 ?_
  refine ev_iload_8 (pc := 155) dX8_odds_155 ?_
  refine ev_iload_n_2 (pc := 157) dX8_odds_157 ?_
  refine ev_icmp_lt (pc := 158) (tgt := 166) dX8_odds_158 (by decide) (fun h158 => ?_) (fun h158 => ?_)
  · skip
    refine ev_iconst (pc := 166) (v := 0) dX8_odds_166 (by decide) ?_
    refine ev_iaddc (pc := 167) (v := nI (SS (trm (ccN A 0) (ccN A 1) x (aN A) k) 0 s)) dX8_odds_167 (nI_addz (SS (trm (ccN A 0) (ccN A 1) x (aN A) k) 0 s)) ?_
    refine ev_istore_4 (pc := 168) dX8_odds_168 (by decide) ?_
    refine ev_iinc_6 (pc := 170) (v := nI (s + 1)) dX8_odds_170 (nI_inc s) (by decide) ?_
    refine ev_goto (pc := 173) (tgt := 69) dX8_odds_173 (by decide) ?_
    have hlt : nI (cnN (ccN A 0) (ccN A 1) s (aN A)) < nI k ↔ cnN (ccN A 0) (ccN A 1) s (aN A) < k := by rw [tI_lt, nI_toInt (by have := ct_lt (A := A) (s := s) (aN A); have := h.1; omega), nI_toInt (by omega)]; omega
    refine ev_eq ?_ rfl rfl (K (.int (nI (wtN x s (aN A)))) (.int (nI (cnN (ccN A 0) (ccN A 1) s (aN A)))) (.int (nI (aN A))))
    rw [show SS (trm (ccN A 0) (ccN A 1) x (aN A) k) 0 (s + 1) = SS (trm (ccN A 0) (ccN A 1) x (aN A) k) 0 s + trm (ccN A 0) (ccN A 1) x (aN A) k (0 + s) from rfl, Nat.zero_add, show trm (ccN A 0) (ccN A 1) x (aN A) k s = 0 from if_pos (hlt.mp h158)]; rfl
  · skip
    refine ev_iload_7 (pc := 161) dX8_odds_161 ?_
    refine ev_goto (pc := 163) (tgt := 167) dX8_odds_163 (by decide) ?_
    refine ev_iaddc (pc := 167) (v := nI ((SS (trm (ccN A 0) (ccN A 1) x (aN A) k) 0 s) + (wtN x s (aN A)))) dX8_odds_167 (nI_add (SS (trm (ccN A 0) (ccN A 1) x (aN A) k) 0 s) (wtN x s (aN A))) ?_
    refine ev_istore_4 (pc := 168) dX8_odds_168 (by decide) ?_
    refine ev_iinc_6 (pc := 170) (v := nI (s + 1)) dX8_odds_170 (nI_inc s) (by decide) ?_
    refine ev_goto (pc := 173) (tgt := 69) dX8_odds_173 (by decide) ?_
    have hlt : nI (cnN (ccN A 0) (ccN A 1) s (aN A)) < nI k ↔ cnN (ccN A 0) (ccN A 1) s (aN A) < k := by rw [tI_lt, nI_toInt (by have := ct_lt (A := A) (s := s) (aN A); have := h.1; omega), nI_toInt (by omega)]; omega
    refine ev_eq ?_ rfl rfl (K (.int (nI (wtN x s (aN A)))) (.int (nI (cnN (ccN A 0) (ccN A 1) s (aN A)))) (.int (nI (aN A))))
    rw [show SS (trm (ccN A 0) (ccN A 1) x (aN A) k) 0 (s + 1) = SS (trm (ccN A 0) (ccN A 1) x (aN A) k) 0 s + trm (ccN A 0) (ccN A 1) x (aN A) k (0 + s) from rfl, Nat.zero_add, show trm (ccN A 0) (ccN A 1) x (aN A) k s = wtN x s (aN A) from if_neg (fun z => h158 (hlt.mpr z))]
set_option maxRecDepth 100000 in
theorem b1_X8_odds {S : Scr} {A : Abs} (x : Nat) (hx : x ≤ 10) (k : Nat) (hk : k < 7) (w : Int32) (i : Nat) (hi : i < aN A) (σ : Sto) {Q : Option Value → Sto → Prop} (h : nwR A σ (aC A)) (K : Ev S RX8 cX8_odds 10 (some .int) 3 44 [.ref 117, .int (nI x), .int (nI k), .int w, .int 0, .int (nI (10 ^ (i + 1))), .int (nI (i + 1)), .null, .null, .null] [] σ (Q)) : Ev S RX8 cX8_odds 10 (some .int) 3 44 [.ref 117, .int (nI x), .int (nI k), .int w, .int 0, .int (nI (10 ^ i)), .int (nI i), .null, .null, .null] [] σ (Q) := by
  refine ev_iload_6 (pc := 44) dX8_odds_44 ?_
  refine ev_aload_n_0 (pc := 46) dX8_odds_46 ?_
  refine ev_getI (pc := 47) dX8_odds_47 fl_X8_50 (by decide) (by decide) (by decide) ?_
  refine ev_icmp_ge (pc := 50) (tgt := 66) dX8_odds_50 (by decide) (fun h50 => by exact absurd h50 (by rw [h.2.1.1]; exact nI_ge hi (by have := h.1; omega))) (fun h50 => ?_)
  refine ev_iload_5 (pc := 53) dX8_odds_53 ?_
  refine ev_bipush (pc := 55) (v := 10) dX8_odds_55 (by decide) ?_
  refine ev_imulc (pc := 57) (v := nI ((10 ^ i) * 10)) dX8_odds_57 (nI_mul (10 ^ i) 10) ?_
  refine ev_istore_5 (pc := 58) dX8_odds_58 (by decide) ?_
  refine ev_iinc_6 (pc := 60) (v := nI (i + 1)) dX8_odds_60 (nI_inc i) (by decide) ?_
  refine ev_goto (pc := 63) (tgt := 44) dX8_odds_63 (by decide) ?_
  exact K
theorem in10 : ∀ x, x ≤ 10 → bI ((0 : Int32) ≤ nI x ∧ nI x ≤ 10) = 1 := by decide +kernel
theorem in6 : ∀ x, x < 7 → bI ((0 : Int32) ≤ nI x ∧ nI x ≤ 6) = 1 := by decide +kernel
theorem m_X8_oddsN {S : Scr} {A : Abs} (x : Nat) (hx : x ≤ 10) (k : Nat) (hk : k < 7) (w : Int32) (hw : ¬ w < 0 ∧ w ≤ 1) (σ : Sto) (h : RM A σ) : Mt S yX8_odds cX8_odds 10 (some .int) 3 [.ref 117, .int (nI x), .int (nI k), .int w] σ (PM A σ (iltD (wfD (cwA A (nI x)) k) (wfD (cwA A (nI x)) 0) w)) := by
  refine mt_of (ls := [.ref 117, .int (nI x), .int (nI k), .int w, .null, .null, .null, .null, .null, .null]) (by decide) rfl (Nat.le_of_ble_eq_true rfl) (by simp [Value.category]) ?_
  have hq := h.nwR
  have hp := pow_n _ h.n6
  have hp10 := pow10 _ h.n6
  have hU := uN_lt h.n6 hx (k := k) (by omega)
  refine ev_iload_n_1 (pc := 0) dX8_odds_0 ?_
  refine ev_iconst (pc := 1) (v := 0) dX8_odds_1 (by decide) ?_
  refine ev_bipush (pc := 2) (v := 10) dX8_odds_2 (by decide) ?_
  refine ev_callS1 (pc := 4) dX8_odds_4 ml_X8_54 (m_X8_in _ _ _ σ) rfl (by decide) rfl (Nat.le_of_ble_eq_true rfl) ?_
  rw [in10 x hx]
  refine ev_if_eq (pc := 7) (tgt := 29) dX8_odds_7 (by decide) (fun h7 => by exact absurd h7 (by decide)) (fun h7 => ?_)
  refine ev_iload_n_2 (pc := 10) dX8_odds_10 ?_
  refine ev_iconst (pc := 11) (v := 0) dX8_odds_11 (by decide) ?_
  refine ev_bipush (pc := 12) (v := 6) dX8_odds_12 (by decide) ?_
  refine ev_callS1 (pc := 14) dX8_odds_14 ml_X8_54 (m_X8_in _ _ _ σ) rfl (by decide) rfl (Nat.le_of_ble_eq_true rfl) ?_
  rw [in6 k hk]
  refine ev_if_eq (pc := 17) (tgt := 29) dX8_odds_17 (by decide) (fun h17 => by exact absurd h17 (by decide)) (fun h17 => ?_)
  refine ev_iload_n_3 (pc := 20) dX8_odds_20 ?_
  refine ev_iconst (pc := 21) (v := 0) dX8_odds_21 (by decide) ?_
  refine ev_iconst (pc := 22) (v := 1) dX8_odds_22 (by decide) ?_
  refine ev_callS1 (pc := 23) dX8_odds_23 ml_X8_54 (m_X8_in _ _ _ σ) rfl (by decide) rfl (Nat.le_of_ble_eq_true rfl) ?_
  rw [bI_t (show (0 : Int32) ≤ w ∧ w ≤ 1 from ⟨Int32.not_lt.mp hw.1, hw.2⟩)]
  refine ev_if_ne (pc := 26) (tgt := 31) dX8_odds_26 (by decide) (fun h26 => ?_) (fun h26 => by exact absurd h26 (by decide))
  refine ev_iconst (pc := 31) (v := 0) dX8_odds_31 (by decide) ?_
  refine ev_istore_4 (pc := 32) dX8_odds_32 (by decide) ?_
  refine ev_iconst (pc := 34) (v := 1) dX8_odds_34 (by decide) ?_
  refine ev_istore_5 (pc := 35) dX8_odds_35 (by decide) ?_
  refine ev_aload_n_0 (pc := 37) dX8_odds_37 ?_
  refine ev_callV0 (pc := 38) dX8_odds_38 ml_X8_157 (m_X8_asItIs σ) (by decide) ⟨_, rfl, rfl⟩ rfl (by decide) rfl (Nat.le_of_ble_eq_true rfl) ?_
  refine ev_iconst (pc := 41) (v := 0) dX8_odds_41 (by decide) ?_
  refine ev_istore_6 (pc := 42) dX8_odds_42 (by decide) ?_
  refine for_up (aN A) (fun i (_ : Unit) => Ev S RX8 cX8_odds 10 (some .int) 3 44 [.ref 117, .int (nI x), .int (nI k), .int w, .int 0, .int (nI (10 ^ i)), .int (nI i), .null, .null, .null] [] (nowW σ) (PM A σ (iltD (wfD (cwA A (nI x)) k) (wfD (cwA A (nI x)) 0) w))) (fun _ u => u) (fun i _ hi K => b1_X8_odds x hx k hk w i hi (nowW σ) hq K) () ?_
  refine ev_iload_6 (pc := 44) dX8_odds_44 ?_
  refine ev_aload_n_0 (pc := 46) dX8_odds_46 ?_
  refine ev_getI (pc := 47) dX8_odds_47 fl_X8_50 (by decide) (by decide) (by decide) ?_
  refine ev_icmp_ge (pc := 50) (tgt := 66) dX8_odds_50 (by decide) (fun h50 => ?_) (fun h50 => by exact absurd (by rw [hq.2.1.1]; exact Int32.le_refl _) h50)
  refine ev_iconst (pc := 66) (v := 0) dX8_odds_66 (by decide) ?_
  refine ev_istore_6 (pc := 67) dX8_odds_67 (by decide) ?_
  refine for_up (2 ^ aN A) (fun s (_ : Unit) => ∀ y7 y8 y9, Ev S RX8 cX8_odds 10 (some .int) 3 69 [.ref 117, .int (nI x), .int (nI k), .int w, .int (nI (SS (trm (ccN A 0) (ccN A 1) x (aN A) k) 0 s)), .int (nI (10 ^ aN A)), .int (nI s), y7, y8, y9] [] (nowW σ) (PM A σ (iltD (wfD (cwA A (nI x)) k) (wfD (cwA A (nI x)) 0) w))) (fun _ u => u) (fun s _ hs K y7 y8 y9 => b3_X8_odds x hx k hk w s hs y7 y8 y9 (nowW σ) hq K) () (fun y7 y8 y9 => ?_) _ _ _
  refine ev_iload_6 (pc := 69) dX8_odds_69 ?_
  refine ev_iconst (pc := 71) (v := 1) dX8_odds_71 (by decide) ?_
  refine ev_aload_n_0 (pc := 72) dX8_odds_72 ?_
  refine ev_getI (pc := 73) dX8_odds_73 fl_X8_50 (by decide) (by decide) (by decide) ?_
  refine ev_ishl (pc := 76) dX8_odds_76 ?_
  rw [hq.2.1.1, sh_n _ h.n6]
  refine ev_icmp_ge (pc := 77) (tgt := 176) dX8_odds_77 (by decide) (fun h77 => ?_) (fun h77 => by exact absurd (Int32.le_refl _) h77)
  refine ev_iload_4 (pc := 176) dX8_odds_176 ?_
  refine ev_iload_5 (pc := 178) dX8_odds_178 ?_
  refine ev_iload_n_3 (pc := 180) dX8_odds_180 ?_
  refine ev_callS1 (pc := 181) dX8_odds_181 ml_X8_196 (m_X8_lowest (uN A x k) (10 ^ aN A) w hU hp10.1 hp10.2 _) rfl (by decide) rfl (Nat.le_of_ble_eq_true rfl) ?_
  exact ev_ireturn (pc := 184) dX8_odds_184 rfl rfl (PM.now h (odds_eq h.n6 hx (by omega) w))
theorem m_X8_odds {S : Scr} {A : Abs} (x : Int32) (hx : ¬ x < 0 ∧ x ≤ 10) (k : Nat) (hk : k < 7) (w : Int32) (hw : ¬ w < 0 ∧ w ≤ 1) (σ : Sto) (h : RM A σ) : Mt S yX8_odds cX8_odds 10 (some .int) 3 [.ref 117, .int x, .int (nI k), .int w] σ (PM A σ (iltD (wfD (cwA A x) k) (wfD (cwA A x) 0) w)) := by
  obtain ⟨xn, h1, rfl⟩ := nat_of (n := 11) (by decide) ⟨hx.1, show x < 11 by
    have := hx.2
    rw [tI_le, show (10 : Int32).toInt = 10 from rfl] at this
    rw [tI_lt, show (11 : Int32).toInt = 11 from rfl]; omega⟩
  exact m_X8_oddsN xn (by omega) k hk w hw σ h
set_option maxRecDepth 100000 in
theorem m_X8_odds0 {S : Scr} (x k w : Int32) (hb : ¬ ((¬ x < 0 ∧ x ≤ 10) ∧ (¬ k < 0 ∧ k < 7) ∧ ¬ w < 0 ∧ w ≤ 1)) (σ : Sto) : Mt S yX8_odds cX8_odds 10 (some .int) 3 [.ref 117, .int x, .int k, .int w] σ (Is (some (.int (-1))) σ) := by
  refine mt_of (ls := [.ref 117, .int x, .int k, .int w, .null, .null, .null, .null, .null, .null]) (by decide) rfl (Nat.le_of_ble_eq_true rfl) (by simp [Value.category]) ?_
  refine ev_iload_n_1 (pc := 0) dX8_odds_0 ?_
  refine ev_iconst (pc := 1) (v := 0) dX8_odds_1 (by decide) ?_
  refine ev_bipush (pc := 2) (v := 10) dX8_odds_2 (by decide) ?_
  refine ev_callS1 (pc := 4) dX8_odds_4 ml_X8_54 (m_X8_in _ _ _ σ) rfl (by decide) rfl (Nat.le_of_ble_eq_true rfl) ?_
  refine ev_if_eq (pc := 7) (tgt := 29) dX8_odds_7 (by decide) (fun h7 => ?_) (fun h7 => ?_)
  · skip
    refine ev_iconst (pc := 29) (v := (-1)) dX8_odds_29 (by decide) ?_
    exact ev_ireturn (pc := 30) dX8_odds_30 rfl rfl (⟨rfl, rfl⟩)
  · skip
    refine ev_iload_n_2 (pc := 10) dX8_odds_10 ?_
    refine ev_iconst (pc := 11) (v := 0) dX8_odds_11 (by decide) ?_
    refine ev_bipush (pc := 12) (v := 6) dX8_odds_12 (by decide) ?_
    refine ev_callS1 (pc := 14) dX8_odds_14 ml_X8_54 (m_X8_in _ _ _ σ) rfl (by decide) rfl (Nat.le_of_ble_eq_true rfl) ?_
    refine ev_if_eq (pc := 17) (tgt := 29) dX8_odds_17 (by decide) (fun h17 => ?_) (fun h17 => ?_)
    · skip
      refine ev_iconst (pc := 29) (v := (-1)) dX8_odds_29 (by decide) ?_
      exact ev_ireturn (pc := 30) dX8_odds_30 rfl rfl (⟨rfl, rfl⟩)
    · skip
      refine ev_iload_n_3 (pc := 20) dX8_odds_20 ?_
      refine ev_iconst (pc := 21) (v := 0) dX8_odds_21 (by decide) ?_
      refine ev_iconst (pc := 22) (v := 1) dX8_odds_22 (by decide) ?_
      refine ev_callS1 (pc := 23) dX8_odds_23 ml_X8_54 (m_X8_in _ _ _ σ) rfl (by decide) rfl (Nat.le_of_ble_eq_true rfl) ?_
      refine ev_if_ne (pc := 26) (tgt := 31) dX8_odds_26 (by decide) (fun h26 => ?_) (fun h26 => ?_)
      · skip
        have q1 := Decidable.not_not.mp (fun z => h7 (bI_f z))
        have q2 := Decidable.not_not.mp (fun z => h17 (bI_f z))
        have q3 := Decidable.not_not.mp (fun z => h26 (bI_f z))
        exact absurd ⟨⟨Int32.not_lt.mpr q1.1, q1.2⟩, ⟨Int32.not_lt.mpr q2.1, lt7 q2.2⟩, Int32.not_lt.mpr q3.1, q3.2⟩ hb
      · skip
        refine ev_iconst (pc := 29) (v := (-1)) dX8_odds_29 (by decide) ?_
        exact ev_ireturn (pc := 30) dX8_odds_30 rfl rfl (⟨rfl, rfl⟩)
